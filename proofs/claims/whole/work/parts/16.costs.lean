def y_Co_of : MethodName := ⟨"OneLamp$Costs", "of", "(I)I"⟩
theorem yy_Co_of : YV y_Co_of prog_3_method_2_code 2 (some .int) 1 := ⟨mw_2_186, mw_1_8, mw_2_184, mw_2_185, by decide +kernel, by decide +kernel, by decide +kernel⟩
theorem d_Co_of_0 : decode prog_3_method_2_code 0 = .ok (.iload_n 1, 1) := by decide +kernel
theorem d_Co_of_1 : decode prog_3_method_2_code 1 = .ok (.ifCond .lt 18, 3) := by decide +kernel
theorem d_Co_of_4 : decode prog_3_method_2_code 4 = .ok (.iload_n 1, 1) := by decide +kernel
theorem d_Co_of_5 : decode prog_3_method_2_code 5 = .ok (.bipush 10, 2) := by decide +kernel
theorem d_Co_of_7 : decode prog_3_method_2_code 7 = .ok (.if_icmp .ge 12, 3) := by decide +kernel
theorem d_Co_of_10 : decode prog_3_method_2_code 10 = .ok (.aload_n 0, 1) := by decide +kernel
theorem d_Co_of_11 : decode prog_3_method_2_code 11 = .ok (.getfield 9, 3) := by decide +kernel
theorem d_Co_of_14 : decode prog_3_method_2_code 14 = .ok (.iload_n 1, 1) := by decide +kernel
theorem d_Co_of_15 : decode prog_3_method_2_code 15 = .ok (.iaload, 1) := by decide +kernel
theorem d_Co_of_16 : decode prog_3_method_2_code 16 = .ok (.goto 4, 3) := by decide +kernel
theorem d_Co_of_19 : decode prog_3_method_2_code 19 = .ok (.iconst 0, 1) := by decide +kernel
theorem d_Co_of_20 : decode prog_3_method_2_code 20 = .ok (.ireturn, 1) := by decide +kernel
def f_Co_of  (p1 : Int32) (x_o_prices : Nat → Int32) : Option (Int32) :=
  if p1 < 0 then
    (some ((0 : Int32)))
  else
    (if (10 : Int32) ≤ p1 then
      (some ((0 : Int32)))
    else
      (if p1 < 0 ∨ 10 ≤ Int32.toNatClampNeg p1 then none else
      some ((x_o_prices (Int32.toNatClampNeg p1)))))
set_option maxRecDepth 20000 in
theorem c_Co_of {l : Launch} {D : va_G} {dA : Nat → ClassId} {a_o a_o_prices a_o_lamps a_o_before a_o_after a_o_sorted : Nat} {x_o_done : Int32} {x_o_undone : Int32} {p1 : Int32} {x_o_prices : Nat → Int32} {r0 : Int32}   (hf : f_Co_of  p1 x_o_prices = some r0) : CT l y_Co_of prog_3_method_2_code 2 (some .int) { frames := 0, cells := 0, slots := 0, locals := 0 } D dA [.ref a_o, .int p1] [O_Co a_o a_o_prices a_o_lamps a_o_before a_o_after a_o_sorted x_o_done x_o_undone, A_I dA a_o_prices 10 x_o_prices] (some (.int r0)) (fun _ : Unit => [O_Co a_o a_o_prices a_o_lamps a_o_before a_o_after a_o_sorted x_o_done x_o_undone, A_I dA a_o_prices 10 x_o_prices]) := by
  refine ct_intro "OneLamp$Costs" rfl (by decide +kernel) (Nat.le_of_ble_eq_true rfl) [(0, .ref a_o), (1, .int p1)] rfl (fun _ C => ?_)
  unfold f_Co_of at hf
  refine g_iload_n (pc' := 1) C 1 d_Co_of_0 rfl rfl ?_
  refine g_if_lt (pc' := 4) (tgt := 19) C d_Co_of_1 rfl rfl (fun h => ?_) (fun h => ?_)
  · replace hf := g_ip h hf
    refine g_iconst (pc' := 20) (v := 0) C d_Co_of_19 rfl rfl ?_
    replace hf := Option.some.inj hf; subst hf
    exact g_iret C d_Co_of_20 () rfl
  · replace hf := g_in h hf
    refine g_iload_n (pc' := 5) C 1 d_Co_of_4 rfl rfl ?_
    refine g_bipush (pc' := 7) (v := 10) C d_Co_of_5 rfl rfl ?_
    refine g_icmp_ge (pc' := 10) (tgt := 19) C d_Co_of_7 rfl rfl (fun h => ?_) (fun h => ?_)
    · replace hf := g_ip h hf
      refine g_iconst (pc' := 20) (v := 0) C d_Co_of_19 rfl rfl ?_
      replace hf := Option.some.inj hf; subst hf
      exact g_iret C d_Co_of_20 () rfl
    · replace hf := g_in h hf
      refine g_aload_n (pc' := 11) C 0 d_Co_of_10 rfl rfl ?_
      refine g_get (pc' := 14) C kf_Co 0 mw_1_183 d_Co_of_11 rfl 0 rfl (by decide) rfl ?_
      refine g_iload_n (pc' := 15) C 1 d_Co_of_14 rfl rfl ?_
      have hb := g_ck hf
      replace hf := g_in hb hf
      refine g_iald (pc' := 16) C d_Co_of_15 rfl 1 rfl hb ?_
      refine g_goto (tgt := 20) C d_Co_of_16 rfl ?_
      replace hf := Option.some.inj hf; subst hf
      exact g_iret C d_Co_of_20 () rfl
def y_Co_price : MethodName := ⟨"OneLamp$Costs", "price", "(II)V"⟩
theorem yy_Co_price : YV y_Co_price prog_3_method_3_code 3 none 2 := ⟨mw_2_200, mw_1_8, mw_2_199, tm_s (y := y_Co_price) (n := 7) (by decide +kernel), by decide +kernel, by decide +kernel, by decide +kernel⟩
theorem d_Co_price_0 : decode prog_3_method_3_code 0 = .ok (.iload_n 1, 1) := by decide +kernel
theorem d_Co_price_1 : decode prog_3_method_3_code 1 = .ok (.ifCond .lt 16, 3) := by decide +kernel
theorem d_Co_price_4 : decode prog_3_method_3_code 4 = .ok (.iload_n 1, 1) := by decide +kernel
theorem d_Co_price_5 : decode prog_3_method_3_code 5 = .ok (.bipush 10, 2) := by decide +kernel
theorem d_Co_price_7 : decode prog_3_method_3_code 7 = .ok (.if_icmp .ge 10, 3) := by decide +kernel
theorem d_Co_price_10 : decode prog_3_method_3_code 10 = .ok (.aload_n 0, 1) := by decide +kernel
theorem d_Co_price_11 : decode prog_3_method_3_code 11 = .ok (.getfield 9, 3) := by decide +kernel
theorem d_Co_price_14 : decode prog_3_method_3_code 14 = .ok (.iload_n 1, 1) := by decide +kernel
theorem d_Co_price_15 : decode prog_3_method_3_code 15 = .ok (.iload_n 2, 1) := by decide +kernel
theorem d_Co_price_16 : decode prog_3_method_3_code 16 = .ok (.iastore, 1) := by decide +kernel
theorem d_Co_price_17 : decode prog_3_method_3_code 17 = .ok (.return_, 1) := by decide +kernel
def f_Co_price  (p1 : Int32) (p2 : Int32) (x_o_prices : Nat → Int32) : Option ((Nat → Int32)) :=
  if p1 < 0 then
    (some (x_o_prices))
  else
    (if (10 : Int32) ≤ p1 then
      (some (x_o_prices))
    else
      (if p1 < 0 ∨ 10 ≤ Int32.toNatClampNeg p1 then none else
      some ((upd x_o_prices (Int32.toNatClampNeg p1) p2))))
set_option maxRecDepth 20000 in
theorem c_Co_price {l : Launch} {D : va_G} {dA : Nat → ClassId} {a_o a_o_prices a_o_lamps a_o_before a_o_after a_o_sorted : Nat} {x_o_done : Int32} {x_o_undone : Int32} {p1 : Int32} {p2 : Int32} {x_o_prices : Nat → Int32} {o_x_o_prices : Nat → Int32}   (hf : f_Co_price  p1 p2 x_o_prices = some o_x_o_prices) : CT l y_Co_price prog_3_method_3_code 3 none { frames := 0, cells := 0, slots := 0, locals := 0 } D dA [.ref a_o, .int p1, .int p2] [O_Co a_o a_o_prices a_o_lamps a_o_before a_o_after a_o_sorted x_o_done x_o_undone, A_I dA a_o_prices 10 x_o_prices] none (fun _ : Unit => [O_Co a_o a_o_prices a_o_lamps a_o_before a_o_after a_o_sorted x_o_done x_o_undone, A_I dA a_o_prices 10 o_x_o_prices]) := by
  refine ct_intro "OneLamp$Costs" rfl (by decide +kernel) (Nat.le_of_ble_eq_true rfl) [(0, .ref a_o), (1, .int p1), (2, .int p2)] rfl (fun _ C => ?_)
  unfold f_Co_price at hf
  refine g_iload_n (pc' := 1) C 1 d_Co_price_0 rfl rfl ?_
  refine g_if_lt (pc' := 4) (tgt := 17) C d_Co_price_1 rfl rfl (fun h => ?_) (fun h => ?_)
  · replace hf := g_ip h hf
    replace hf := Option.some.inj hf; subst hf
    exact g_vret C d_Co_price_17 () rfl
  · replace hf := g_in h hf
    refine g_iload_n (pc' := 5) C 1 d_Co_price_4 rfl rfl ?_
    refine g_bipush (pc' := 7) (v := 10) C d_Co_price_5 rfl rfl ?_
    refine g_icmp_ge (pc' := 10) (tgt := 17) C d_Co_price_7 rfl rfl (fun h => ?_) (fun h => ?_)
    · replace hf := g_ip h hf
      replace hf := Option.some.inj hf; subst hf
      exact g_vret C d_Co_price_17 () rfl
    · replace hf := g_in h hf
      refine g_aload_n (pc' := 11) C 0 d_Co_price_10 rfl rfl ?_
      refine g_get (pc' := 14) C kf_Co 0 mw_1_183 d_Co_price_11 rfl 0 rfl (by decide) rfl ?_
      refine g_iload_n (pc' := 15) C 1 d_Co_price_14 rfl rfl ?_
      refine g_iload_n (pc' := 16) C 2 d_Co_price_15 rfl rfl ?_
      have hb := g_ck hf
      replace hf := g_in hb hf
      refine g_iast (pc' := 17) (ws' := [O_Co a_o a_o_prices a_o_lamps a_o_before a_o_after a_o_sorted x_o_done x_o_undone, A_I dA a_o_prices 10 (upd x_o_prices (Int32.toNatClampNeg p1) p2)]) C d_Co_price_16 rfl 1 rfl hb rfl ?_
      replace hf := Option.some.inj hf; subst hf
      exact g_vret C d_Co_price_17 () rfl
def y_Co_dropOldest : MethodName := ⟨"OneLamp$Costs", "dropOldest", "()V"⟩
theorem yy_Co_dropOldest : YV y_Co_dropOldest prog_3_method_5_code 1 none 0 := ⟨mw_2_195, mw_1_8, mw_2_194, tm_s (y := y_Co_dropOldest) (n := 7) (by decide +kernel), by decide +kernel, by decide +kernel, by decide +kernel⟩
theorem d_Co_dropOldest_0 : decode prog_3_method_5_code 0 = .ok (.aload_n 0, 1) := by decide +kernel
theorem d_Co_dropOldest_1 : decode prog_3_method_5_code 1 = .ok (.bipush 39, 2) := by decide +kernel
theorem d_Co_dropOldest_3 : decode prog_3_method_5_code 3 = .ok (.putfield 41, 3) := by decide +kernel
theorem d_Co_dropOldest_6 : decode prog_3_method_5_code 6 = .ok (.aload_n 0, 1) := by decide +kernel
theorem d_Co_dropOldest_7 : decode prog_3_method_5_code 7 = .ok (.getfield 21, 3) := by decide +kernel
theorem d_Co_dropOldest_10 : decode prog_3_method_5_code 10 = .ok (.iconst 1, 1) := by decide +kernel
theorem d_Co_dropOldest_11 : decode prog_3_method_5_code 11 = .ok (.aload_n 0, 1) := by decide +kernel
theorem d_Co_dropOldest_12 : decode prog_3_method_5_code 12 = .ok (.getfield 21, 3) := by decide +kernel
theorem d_Co_dropOldest_15 : decode prog_3_method_5_code 15 = .ok (.iconst 0, 1) := by decide +kernel
theorem d_Co_dropOldest_16 : decode prog_3_method_5_code 16 = .ok (.aload_n 0, 1) := by decide +kernel
theorem d_Co_dropOldest_17 : decode prog_3_method_5_code 17 = .ok (.getfield 41, 3) := by decide +kernel
theorem d_Co_dropOldest_20 : decode prog_3_method_5_code 20 = .ok (.invokestatic 51, 3) := by decide +kernel
theorem d_Co_dropOldest_23 : decode prog_3_method_5_code 23 = .ok (.aload_n 0, 1) := by decide +kernel
theorem d_Co_dropOldest_24 : decode prog_3_method_5_code 24 = .ok (.getfield 24, 3) := by decide +kernel
theorem d_Co_dropOldest_27 : decode prog_3_method_5_code 27 = .ok (.iconst 1, 1) := by decide +kernel
theorem d_Co_dropOldest_28 : decode prog_3_method_5_code 28 = .ok (.aload_n 0, 1) := by decide +kernel
theorem d_Co_dropOldest_29 : decode prog_3_method_5_code 29 = .ok (.getfield 24, 3) := by decide +kernel
theorem d_Co_dropOldest_32 : decode prog_3_method_5_code 32 = .ok (.iconst 0, 1) := by decide +kernel
theorem d_Co_dropOldest_33 : decode prog_3_method_5_code 33 = .ok (.aload_n 0, 1) := by decide +kernel
theorem d_Co_dropOldest_34 : decode prog_3_method_5_code 34 = .ok (.getfield 41, 3) := by decide +kernel
theorem d_Co_dropOldest_37 : decode prog_3_method_5_code 37 = .ok (.invokestatic 51, 3) := by decide +kernel
theorem d_Co_dropOldest_40 : decode prog_3_method_5_code 40 = .ok (.aload_n 0, 1) := by decide +kernel
theorem d_Co_dropOldest_41 : decode prog_3_method_5_code 41 = .ok (.getfield 27, 3) := by decide +kernel
theorem d_Co_dropOldest_44 : decode prog_3_method_5_code 44 = .ok (.iconst 1, 1) := by decide +kernel
theorem d_Co_dropOldest_45 : decode prog_3_method_5_code 45 = .ok (.aload_n 0, 1) := by decide +kernel
theorem d_Co_dropOldest_46 : decode prog_3_method_5_code 46 = .ok (.getfield 27, 3) := by decide +kernel
theorem d_Co_dropOldest_49 : decode prog_3_method_5_code 49 = .ok (.iconst 0, 1) := by decide +kernel
theorem d_Co_dropOldest_50 : decode prog_3_method_5_code 50 = .ok (.aload_n 0, 1) := by decide +kernel
theorem d_Co_dropOldest_51 : decode prog_3_method_5_code 51 = .ok (.getfield 41, 3) := by decide +kernel
theorem d_Co_dropOldest_54 : decode prog_3_method_5_code 54 = .ok (.invokestatic 51, 3) := by decide +kernel
theorem d_Co_dropOldest_57 : decode prog_3_method_5_code 57 = .ok (.return_, 1) := by decide +kernel
def f_Co_dropOldest  (x_o_done : Int32) (x_o_lamps : Nat → Int32) (x_o_before : Nat → Int32) (x_o_after : Nat → Int32) : Option (Int32 × (Nat → Int32) × (Nat → Int32) × (Nat → Int32)) :=
  if (1 : Int32) < 0 ∨ (0 : Int32) < 0 ∨ (39 : Int32) < 0 ∨ 40 < Int32.toNatClampNeg (1 : Int32) + Int32.toNatClampNeg (39 : Int32) ∨ 40 < Int32.toNatClampNeg (0 : Int32) + Int32.toNatClampNeg (39 : Int32) then none else
  if (1 : Int32) < 0 ∨ (0 : Int32) < 0 ∨ (39 : Int32) < 0 ∨ 40 < Int32.toNatClampNeg (1 : Int32) + Int32.toNatClampNeg (39 : Int32) ∨ 40 < Int32.toNatClampNeg (0 : Int32) + Int32.toNatClampNeg (39 : Int32) then none else
  if (1 : Int32) < 0 ∨ (0 : Int32) < 0 ∨ (39 : Int32) < 0 ∨ 40 < Int32.toNatClampNeg (1 : Int32) + Int32.toNatClampNeg (39 : Int32) ∨ 40 < Int32.toNatClampNeg (0 : Int32) + Int32.toNatClampNeg (39 : Int32) then none else
  some ((39 : Int32), (va_cpy x_o_lamps x_o_lamps (Int32.toNatClampNeg (1 : Int32)) (Int32.toNatClampNeg (0 : Int32)) (Int32.toNatClampNeg (39 : Int32))), (va_cpy x_o_before x_o_before (Int32.toNatClampNeg (1 : Int32)) (Int32.toNatClampNeg (0 : Int32)) (Int32.toNatClampNeg (39 : Int32))), (va_cpy x_o_after x_o_after (Int32.toNatClampNeg (1 : Int32)) (Int32.toNatClampNeg (0 : Int32)) (Int32.toNatClampNeg (39 : Int32))))
set_option maxRecDepth 20000 in
theorem c_Co_dropOldest {l : Launch} {D : va_G} {dA : Nat → ClassId} {a_o a_o_prices a_o_lamps a_o_before a_o_after a_o_sorted : Nat} {x_o_undone : Int32} {x_o_done : Int32} {x_o_lamps : Nat → Int32} {x_o_before : Nat → Int32} {x_o_after : Nat → Int32} {o_x_o_done : Int32} {o_x_o_lamps : Nat → Int32} {o_x_o_before : Nat → Int32} {o_x_o_after : Nat → Int32}   (hf : f_Co_dropOldest  x_o_done x_o_lamps x_o_before x_o_after = some (o_x_o_done, o_x_o_lamps, o_x_o_before, o_x_o_after)) : CT l y_Co_dropOldest prog_3_method_5_code 1 none { frames := 1, cells := 0, slots := 0, locals := 40 } D dA [.ref a_o] [O_Co a_o a_o_prices a_o_lamps a_o_before a_o_after a_o_sorted x_o_done x_o_undone, A_I dA a_o_lamps 40 x_o_lamps, A_I dA a_o_before 40 x_o_before, A_I dA a_o_after 40 x_o_after] none (fun _ : Unit => [O_Co a_o a_o_prices a_o_lamps a_o_before a_o_after a_o_sorted o_x_o_done x_o_undone, A_I dA a_o_lamps 40 o_x_o_lamps, A_I dA a_o_before 40 o_x_o_before, A_I dA a_o_after 40 o_x_o_after]) := by
  refine ct_intro "OneLamp$Costs" rfl (by decide +kernel) (Nat.le_of_ble_eq_true rfl) [(0, .ref a_o)] rfl (fun _ C => ?_)
  unfold f_Co_dropOldest at hf
  refine g_aload_n (pc' := 1) C 0 d_Co_dropOldest_0 rfl rfl ?_
  refine g_bipush (pc' := 3) (v := 39) C d_Co_dropOldest_1 rfl rfl ?_
  refine g_put (pc' := 6) (ws' := [O_Co a_o a_o_prices a_o_lamps a_o_before a_o_after a_o_sorted (39 : Int32) x_o_undone, A_I dA a_o_lamps 40 x_o_lamps, A_I dA a_o_before 40 x_o_before, A_I dA a_o_after 40 x_o_after]) C kf_Co 5 mw_1_188 d_Co_dropOldest_3 rfl 0 rfl (by decide) rfl rfl rfl (Nat.le_of_ble_eq_true rfl) rfl ?_
  refine g_aload_n (pc' := 7) C 0 d_Co_dropOldest_6 rfl rfl ?_
  refine g_get (pc' := 10) C kf_Co 1 mw_1_184 d_Co_dropOldest_7 rfl 0 rfl (by decide) rfl ?_
  refine g_iconst (pc' := 11) (v := 1) C d_Co_dropOldest_10 rfl rfl ?_
  refine g_aload_n (pc' := 12) C 0 d_Co_dropOldest_11 rfl rfl ?_
  refine g_get (pc' := 15) C kf_Co 1 mw_1_184 d_Co_dropOldest_12 rfl 0 rfl (by decide) rfl ?_
  refine g_iconst (pc' := 16) (v := 0) C d_Co_dropOldest_15 rfl rfl ?_
  refine g_aload_n (pc' := 17) C 0 d_Co_dropOldest_16 rfl rfl ?_
  refine g_get (pc' := 20) C kf_Co 5 mw_1_188 d_Co_dropOldest_17 rfl 0 rfl (by decide) rfl ?_
  have hb := g_cp (g_ck hf)
  replace hf := g_in (g_ck hf) hf
  refine g_copyi (pc' := 23) (ws' := [O_Co a_o a_o_prices a_o_lamps a_o_before a_o_after a_o_sorted (39 : Int32) x_o_undone, A_I dA a_o_lamps 40 (va_cpy x_o_lamps x_o_lamps (Int32.toNatClampNeg (1 : Int32)) (Int32.toNatClampNeg (0 : Int32)) (Int32.toNatClampNeg (39 : Int32))), A_I dA a_o_before 40 x_o_before, A_I dA a_o_after 40 x_o_after]) C mw_2_196 mw_2_173 mw_2_172 mw_1_13 d_Co_dropOldest_20 rfl 1 1 rfl rfl hb.1 hb.2.1 hb.2.2.1 hb.2.2.2.1 hb.2.2.2.2 (Nat.le_of_ble_eq_true rfl) (Nat.le_of_ble_eq_true rfl) rfl ?_
  refine g_aload_n (pc' := 24) C 0 d_Co_dropOldest_23 rfl rfl ?_
  refine g_get (pc' := 27) C kf_Co 2 mw_1_185 d_Co_dropOldest_24 rfl 0 rfl (by decide) rfl ?_
  refine g_iconst (pc' := 28) (v := 1) C d_Co_dropOldest_27 rfl rfl ?_
  refine g_aload_n (pc' := 29) C 0 d_Co_dropOldest_28 rfl rfl ?_
  refine g_get (pc' := 32) C kf_Co 2 mw_1_185 d_Co_dropOldest_29 rfl 0 rfl (by decide) rfl ?_
  refine g_iconst (pc' := 33) (v := 0) C d_Co_dropOldest_32 rfl rfl ?_
  refine g_aload_n (pc' := 34) C 0 d_Co_dropOldest_33 rfl rfl ?_
  refine g_get (pc' := 37) C kf_Co 5 mw_1_188 d_Co_dropOldest_34 rfl 0 rfl (by decide) rfl ?_
  have hb := g_cp (g_ck hf)
  replace hf := g_in (g_ck hf) hf
  refine g_copyi (pc' := 40) (ws' := [O_Co a_o a_o_prices a_o_lamps a_o_before a_o_after a_o_sorted (39 : Int32) x_o_undone, A_I dA a_o_lamps 40 (va_cpy x_o_lamps x_o_lamps (Int32.toNatClampNeg (1 : Int32)) (Int32.toNatClampNeg (0 : Int32)) (Int32.toNatClampNeg (39 : Int32))), A_I dA a_o_before 40 (va_cpy x_o_before x_o_before (Int32.toNatClampNeg (1 : Int32)) (Int32.toNatClampNeg (0 : Int32)) (Int32.toNatClampNeg (39 : Int32))), A_I dA a_o_after 40 x_o_after]) C mw_2_196 mw_2_173 mw_2_172 mw_1_13 d_Co_dropOldest_37 rfl 2 2 rfl rfl hb.1 hb.2.1 hb.2.2.1 hb.2.2.2.1 hb.2.2.2.2 (Nat.le_of_ble_eq_true rfl) (Nat.le_of_ble_eq_true rfl) rfl ?_
  refine g_aload_n (pc' := 41) C 0 d_Co_dropOldest_40 rfl rfl ?_
  refine g_get (pc' := 44) C kf_Co 3 mw_1_186 d_Co_dropOldest_41 rfl 0 rfl (by decide) rfl ?_
  refine g_iconst (pc' := 45) (v := 1) C d_Co_dropOldest_44 rfl rfl ?_
  refine g_aload_n (pc' := 46) C 0 d_Co_dropOldest_45 rfl rfl ?_
  refine g_get (pc' := 49) C kf_Co 3 mw_1_186 d_Co_dropOldest_46 rfl 0 rfl (by decide) rfl ?_
  refine g_iconst (pc' := 50) (v := 0) C d_Co_dropOldest_49 rfl rfl ?_
  refine g_aload_n (pc' := 51) C 0 d_Co_dropOldest_50 rfl rfl ?_
  refine g_get (pc' := 54) C kf_Co 5 mw_1_188 d_Co_dropOldest_51 rfl 0 rfl (by decide) rfl ?_
  have hb := g_cp (g_ck hf)
  replace hf := g_in (g_ck hf) hf
  refine g_copyi (pc' := 57) (ws' := [O_Co a_o a_o_prices a_o_lamps a_o_before a_o_after a_o_sorted (39 : Int32) x_o_undone, A_I dA a_o_lamps 40 (va_cpy x_o_lamps x_o_lamps (Int32.toNatClampNeg (1 : Int32)) (Int32.toNatClampNeg (0 : Int32)) (Int32.toNatClampNeg (39 : Int32))), A_I dA a_o_before 40 (va_cpy x_o_before x_o_before (Int32.toNatClampNeg (1 : Int32)) (Int32.toNatClampNeg (0 : Int32)) (Int32.toNatClampNeg (39 : Int32))), A_I dA a_o_after 40 (va_cpy x_o_after x_o_after (Int32.toNatClampNeg (1 : Int32)) (Int32.toNatClampNeg (0 : Int32)) (Int32.toNatClampNeg (39 : Int32)))]) C mw_2_196 mw_2_173 mw_2_172 mw_1_13 d_Co_dropOldest_54 rfl 3 3 rfl rfl hb.1 hb.2.1 hb.2.2.1 hb.2.2.2.1 hb.2.2.2.2 (Nat.le_of_ble_eq_true rfl) (Nat.le_of_ble_eq_true rfl) rfl ?_
  replace hf := g_o2 hf; obtain ⟨h1, hf⟩ := hf; subst h1
  replace hf := g_o2 hf; obtain ⟨h1, hf⟩ := hf; subst h1
  replace hf := g_o2 hf; obtain ⟨h1, hf⟩ := hf; subst h1
  replace hf := Option.some.inj hf; subst hf
  exact g_vret C d_Co_dropOldest_57 () rfl
def y_Co_tell : MethodName := ⟨"OneLamp$Costs", "tell", "(II)V"⟩
theorem yy_Co_tell : YV y_Co_tell prog_3_method_4_code 4 none 2 := ⟨mw_2_190, mw_1_8, mw_2_188, mw_2_189, by decide +kernel, by decide +kernel, by decide +kernel⟩
theorem d_Co_tell_0 : decode prog_3_method_4_code 0 = .ok (.aload_n 0, 1) := by decide +kernel
theorem d_Co_tell_1 : decode prog_3_method_4_code 1 = .ok (.iload_n 1, 1) := by decide +kernel
theorem d_Co_tell_2 : decode prog_3_method_4_code 2 = .ok (.invokevirtual 33, 3) := by decide +kernel
theorem d_Co_tell_5 : decode prog_3_method_4_code 5 = .ok (.istore_n 3, 1) := by decide +kernel
theorem d_Co_tell_6 : decode prog_3_method_4_code 6 = .ok (.iload_n 2, 1) := by decide +kernel
theorem d_Co_tell_7 : decode prog_3_method_4_code 7 = .ok (.iload_n 3, 1) := by decide +kernel
theorem d_Co_tell_8 : decode prog_3_method_4_code 8 = .ok (.if_icmp .ne 4, 3) := by decide +kernel
theorem d_Co_tell_11 : decode prog_3_method_4_code 11 = .ok (.return_, 1) := by decide +kernel
theorem d_Co_tell_12 : decode prog_3_method_4_code 12 = .ok (.aload_n 0, 1) := by decide +kernel
theorem d_Co_tell_13 : decode prog_3_method_4_code 13 = .ok (.iconst 0, 1) := by decide +kernel
theorem d_Co_tell_14 : decode prog_3_method_4_code 14 = .ok (.putfield 37, 3) := by decide +kernel
theorem d_Co_tell_17 : decode prog_3_method_4_code 17 = .ok (.aload_n 0, 1) := by decide +kernel
theorem d_Co_tell_18 : decode prog_3_method_4_code 18 = .ok (.getfield 41, 3) := by decide +kernel
theorem d_Co_tell_21 : decode prog_3_method_4_code 21 = .ok (.bipush 40, 2) := by decide +kernel
theorem d_Co_tell_23 : decode prog_3_method_4_code 23 = .ok (.if_icmp .lt 7, 3) := by decide +kernel
theorem d_Co_tell_26 : decode prog_3_method_4_code 26 = .ok (.aload_n 0, 1) := by decide +kernel
theorem d_Co_tell_27 : decode prog_3_method_4_code 27 = .ok (.invokevirtual 44, 3) := by decide +kernel
theorem d_Co_tell_30 : decode prog_3_method_4_code 30 = .ok (.aload_n 0, 1) := by decide +kernel
theorem d_Co_tell_31 : decode prog_3_method_4_code 31 = .ok (.getfield 41, 3) := by decide +kernel
theorem d_Co_tell_34 : decode prog_3_method_4_code 34 = .ok (.ifCond .lt 52, 3) := by decide +kernel
theorem d_Co_tell_37 : decode prog_3_method_4_code 37 = .ok (.aload_n 0, 1) := by decide +kernel
theorem d_Co_tell_38 : decode prog_3_method_4_code 38 = .ok (.getfield 41, 3) := by decide +kernel
theorem d_Co_tell_41 : decode prog_3_method_4_code 41 = .ok (.bipush 40, 2) := by decide +kernel
theorem d_Co_tell_43 : decode prog_3_method_4_code 43 = .ok (.if_icmp .ge 43, 3) := by decide +kernel
theorem d_Co_tell_46 : decode prog_3_method_4_code 46 = .ok (.aload_n 0, 1) := by decide +kernel
theorem d_Co_tell_47 : decode prog_3_method_4_code 47 = .ok (.getfield 21, 3) := by decide +kernel
theorem d_Co_tell_50 : decode prog_3_method_4_code 50 = .ok (.aload_n 0, 1) := by decide +kernel
theorem d_Co_tell_51 : decode prog_3_method_4_code 51 = .ok (.getfield 41, 3) := by decide +kernel
theorem d_Co_tell_54 : decode prog_3_method_4_code 54 = .ok (.iload_n 1, 1) := by decide +kernel
theorem d_Co_tell_55 : decode prog_3_method_4_code 55 = .ok (.iastore, 1) := by decide +kernel
theorem d_Co_tell_56 : decode prog_3_method_4_code 56 = .ok (.aload_n 0, 1) := by decide +kernel
theorem d_Co_tell_57 : decode prog_3_method_4_code 57 = .ok (.getfield 24, 3) := by decide +kernel
theorem d_Co_tell_60 : decode prog_3_method_4_code 60 = .ok (.aload_n 0, 1) := by decide +kernel
theorem d_Co_tell_61 : decode prog_3_method_4_code 61 = .ok (.getfield 41, 3) := by decide +kernel
theorem d_Co_tell_64 : decode prog_3_method_4_code 64 = .ok (.iload_n 3, 1) := by decide +kernel
theorem d_Co_tell_65 : decode prog_3_method_4_code 65 = .ok (.iastore, 1) := by decide +kernel
theorem d_Co_tell_66 : decode prog_3_method_4_code 66 = .ok (.aload_n 0, 1) := by decide +kernel
theorem d_Co_tell_67 : decode prog_3_method_4_code 67 = .ok (.getfield 27, 3) := by decide +kernel
theorem d_Co_tell_70 : decode prog_3_method_4_code 70 = .ok (.aload_n 0, 1) := by decide +kernel
theorem d_Co_tell_71 : decode prog_3_method_4_code 71 = .ok (.getfield 41, 3) := by decide +kernel
theorem d_Co_tell_74 : decode prog_3_method_4_code 74 = .ok (.iload_n 2, 1) := by decide +kernel
theorem d_Co_tell_75 : decode prog_3_method_4_code 75 = .ok (.iastore, 1) := by decide +kernel
theorem d_Co_tell_76 : decode prog_3_method_4_code 76 = .ok (.aload_n 0, 1) := by decide +kernel
theorem d_Co_tell_77 : decode prog_3_method_4_code 77 = .ok (.dup, 1) := by decide +kernel
theorem d_Co_tell_78 : decode prog_3_method_4_code 78 = .ok (.getfield 41, 3) := by decide +kernel
theorem d_Co_tell_81 : decode prog_3_method_4_code 81 = .ok (.iconst 1, 1) := by decide +kernel
theorem d_Co_tell_82 : decode prog_3_method_4_code 82 = .ok (.iadd, 1) := by decide +kernel
theorem d_Co_tell_83 : decode prog_3_method_4_code 83 = .ok (.putfield 41, 3) := by decide +kernel
theorem d_Co_tell_86 : decode prog_3_method_4_code 86 = .ok (.aload_n 0, 1) := by decide +kernel
theorem d_Co_tell_87 : decode prog_3_method_4_code 87 = .ok (.iload_n 1, 1) := by decide +kernel
theorem d_Co_tell_88 : decode prog_3_method_4_code 88 = .ok (.iload_n 2, 1) := by decide +kernel
theorem d_Co_tell_89 : decode prog_3_method_4_code 89 = .ok (.invokevirtual 47, 3) := by decide +kernel
theorem d_Co_tell_92 : decode prog_3_method_4_code 92 = .ok (.return_, 1) := by decide +kernel
def f_Co_tell_L86   (v1 : Int32) (v2 : Int32) (x_o_done : Int32) (x_o_undone : Int32) (x_o_prices : Nat → Int32) (x_o_lamps : Nat → Int32) (x_o_before : Nat → Int32) (x_o_after : Nat → Int32) : Option (Int32 × Int32 × (Nat → Int32) × (Nat → Int32) × (Nat → Int32) × (Nat → Int32)) :=
  (f_Co_price  v1 v2 x_o_prices).bind fun u1 =>
  some (x_o_done, x_o_undone, u1, x_o_lamps, x_o_before, x_o_after)
set_option maxRecDepth 20000 in
theorem w_Co_tell_L86 {p : Program} {l : Launch} {e : Env} {s : State} {m : MethodId} {args : Array Value} {below : List Frame} {meth : Method} {c : Code} {D : va_G} {dA : Nat → ClassId} {A : Nat → Prop} (C : GC p s m args meth c prog_3_method_4_code 4 "OneLamp$Costs" none D dA A) {a_o a_o_prices a_o_lamps a_o_before a_o_after a_o_sorted : Nat}  {o_x_o_done : Int32} {o_x_o_undone : Int32} {o_x_o_prices : Nat → Int32} {o_x_o_lamps : Nat → Int32} {o_x_o_before : Nat → Int32} {o_x_o_after : Nat → Int32}    (v1 : Int32) (v2 : Int32) (x_o_done : Int32) (x_o_undone : Int32) (x_o_prices : Nat → Int32) (x_o_lamps : Nat → Int32) (x_o_before : Nat → Int32) (x_o_after : Nat → Int32) (hf : f_Co_tell_L86   v1 v2 x_o_done x_o_undone x_o_prices x_o_lamps x_o_before x_o_after = some (o_x_o_done, o_x_o_undone, o_x_o_prices, o_x_o_lamps, o_x_o_before, o_x_o_after)) : GG p l e { frames := 2, cells := 0, slots := 0, locals := 60 } s m args below meth c 4 D A 0 0 (MQ below (cQ D A none (fun _ : Unit => [O_Co a_o a_o_prices a_o_lamps a_o_before a_o_after a_o_sorted o_x_o_done o_x_o_undone, A_I dA a_o_prices 10 o_x_o_prices, A_I dA a_o_lamps 40 o_x_o_lamps, A_I dA a_o_before 40 o_x_o_before, A_I dA a_o_after 40 o_x_o_after])) args s 0 0 A) 86 [(0, .ref a_o), (1, .int v1), (2, .int v2)] [] [O_Co a_o a_o_prices a_o_lamps a_o_before a_o_after a_o_sorted x_o_done x_o_undone, A_I dA a_o_prices 10 x_o_prices, A_I dA a_o_lamps 40 x_o_lamps, A_I dA a_o_before 40 x_o_before, A_I dA a_o_after 40 x_o_after] := by
  unfold f_Co_tell_L86 at hf
  refine g_aload_n (pc' := 87) C 0 d_Co_tell_86 rfl rfl ?_
  refine g_iload_n (pc' := 88) C 1 d_Co_tell_87 rfl rfl ?_
  refine g_iload_n (pc' := 89) C 2 d_Co_tell_88 rfl rfl ?_
  replace hf := g_bi hf; obtain ⟨u1, hc2, hf⟩ := hf
  refine g_callV (pc' := 92) (st1 := []) (ws1 := [O_Co a_o a_o_prices a_o_lamps a_o_before a_o_after a_o_sorted x_o_done x_o_undone, A_I dA a_o_prices 10 u1, A_I dA a_o_lamps 40 x_o_lamps, A_I dA a_o_before 40 x_o_before, A_I dA a_o_after 40 x_o_after]) C (c_Co_price (l := l) (D := D) (dA := dA) (a_o := a_o) (a_o_prices := a_o_prices) (a_o_lamps := a_o_lamps) (a_o_before := a_o_before) (a_o_after := a_o_after) (a_o_sorted := a_o_sorted) (x_o_done := x_o_done) (x_o_undone := x_o_undone)   hc2) yy_Co_price kf_Co rfl mw_2_197 d_Co_tell_89 rfl [] rfl rfl (Nat.le_of_ble_eq_true rfl) ⟨Nat.le_of_ble_eq_true rfl, Nat.le_of_ble_eq_true rfl⟩ rfl rfl (Nat.zero_le _) (Nat.zero_le _) 0 rfl [0, 1] rfl (by decide +kernel) rfl (g_lay_sel _ _ _ _ [(0, true), (1, true), (2, false), (3, false), (4, false)] (by decide +kernel) rfl (by decide +kernel) rfl rfl) rfl ?_
  replace hf := g_o2 hf; obtain ⟨h1, hf⟩ := hf; subst h1
  replace hf := g_o2 hf; obtain ⟨h1, hf⟩ := hf; subst h1
  replace hf := g_o2 hf; obtain ⟨h1, hf⟩ := hf; subst h1
  replace hf := g_o2 hf; obtain ⟨h1, hf⟩ := hf; subst h1
  replace hf := g_o2 hf; obtain ⟨h1, hf⟩ := hf; subst h1
  replace hf := Option.some.inj hf; subst hf
  exact g_vret C d_Co_tell_92 () rfl
def f_Co_tell_L30   (v1 : Int32) (v2 : Int32) (v3 : Int32) (x_o_done : Int32) (x_o_undone : Int32) (x_o_prices : Nat → Int32) (x_o_lamps : Nat → Int32) (x_o_before : Nat → Int32) (x_o_after : Nat → Int32) : Option (Int32 × Int32 × (Nat → Int32) × (Nat → Int32) × (Nat → Int32) × (Nat → Int32)) :=
  if x_o_done < 0 then
    (f_Co_tell_L86  v1 v2 x_o_done x_o_undone x_o_prices x_o_lamps x_o_before x_o_after)
  else
    (if (40 : Int32) ≤ x_o_done then
      (f_Co_tell_L86  v1 v2 x_o_done x_o_undone x_o_prices x_o_lamps x_o_before x_o_after)
    else
      (if x_o_done < 0 ∨ 40 ≤ Int32.toNatClampNeg x_o_done then none else
      if x_o_done < 0 ∨ 40 ≤ Int32.toNatClampNeg x_o_done then none else
      if x_o_done < 0 ∨ 40 ≤ Int32.toNatClampNeg x_o_done then none else
      f_Co_tell_L86  v1 v2 (x_o_done + (1 : Int32)) x_o_undone x_o_prices (upd x_o_lamps (Int32.toNatClampNeg x_o_done) v1) (upd x_o_before (Int32.toNatClampNeg x_o_done) v3) (upd x_o_after (Int32.toNatClampNeg x_o_done) v2)))
set_option maxRecDepth 20000 in
theorem w_Co_tell_L30 {p : Program} {l : Launch} {e : Env} {s : State} {m : MethodId} {args : Array Value} {below : List Frame} {meth : Method} {c : Code} {D : va_G} {dA : Nat → ClassId} {A : Nat → Prop} (C : GC p s m args meth c prog_3_method_4_code 4 "OneLamp$Costs" none D dA A) {a_o a_o_prices a_o_lamps a_o_before a_o_after a_o_sorted : Nat}  {o_x_o_done : Int32} {o_x_o_undone : Int32} {o_x_o_prices : Nat → Int32} {o_x_o_lamps : Nat → Int32} {o_x_o_before : Nat → Int32} {o_x_o_after : Nat → Int32}    (v1 : Int32) (v2 : Int32) (v3 : Int32) (x_o_done : Int32) (x_o_undone : Int32) (x_o_prices : Nat → Int32) (x_o_lamps : Nat → Int32) (x_o_before : Nat → Int32) (x_o_after : Nat → Int32) (hf : f_Co_tell_L30   v1 v2 v3 x_o_done x_o_undone x_o_prices x_o_lamps x_o_before x_o_after = some (o_x_o_done, o_x_o_undone, o_x_o_prices, o_x_o_lamps, o_x_o_before, o_x_o_after)) : GG p l e { frames := 2, cells := 0, slots := 0, locals := 60 } s m args below meth c 4 D A 0 0 (MQ below (cQ D A none (fun _ : Unit => [O_Co a_o a_o_prices a_o_lamps a_o_before a_o_after a_o_sorted o_x_o_done o_x_o_undone, A_I dA a_o_prices 10 o_x_o_prices, A_I dA a_o_lamps 40 o_x_o_lamps, A_I dA a_o_before 40 o_x_o_before, A_I dA a_o_after 40 o_x_o_after])) args s 0 0 A) 30 [(0, .ref a_o), (1, .int v1), (2, .int v2), (3, .int v3)] [] [O_Co a_o a_o_prices a_o_lamps a_o_before a_o_after a_o_sorted x_o_done x_o_undone, A_I dA a_o_prices 10 x_o_prices, A_I dA a_o_lamps 40 x_o_lamps, A_I dA a_o_before 40 x_o_before, A_I dA a_o_after 40 x_o_after] := by
  unfold f_Co_tell_L30 at hf
  refine g_aload_n (pc' := 31) C 0 d_Co_tell_30 rfl rfl ?_
  refine g_get (pc' := 34) C kf_Co 5 mw_1_188 d_Co_tell_31 rfl 0 rfl (by decide) rfl ?_
  refine g_if_lt (pc' := 37) (tgt := 86) C d_Co_tell_34 rfl rfl (fun h => ?_) (fun h => ?_)
  · replace hf := g_ip h hf
    refine g_lv (lv' := [(0, .ref a_o), (1, .int v1), (2, .int v2)]) [0, 1, 2] rfl ?_
    exact w_Co_tell_L86 (a_o := a_o) (a_o_prices := a_o_prices) (a_o_lamps := a_o_lamps) (a_o_before := a_o_before) (a_o_after := a_o_after) (a_o_sorted := a_o_sorted) C   v1 v2 x_o_done x_o_undone x_o_prices x_o_lamps x_o_before x_o_after hf
  · replace hf := g_in h hf
    refine g_aload_n (pc' := 38) C 0 d_Co_tell_37 rfl rfl ?_
    refine g_get (pc' := 41) C kf_Co 5 mw_1_188 d_Co_tell_38 rfl 0 rfl (by decide) rfl ?_
    refine g_bipush (pc' := 43) (v := 40) C d_Co_tell_41 rfl rfl ?_
    refine g_icmp_ge (pc' := 46) (tgt := 86) C d_Co_tell_43 rfl rfl (fun h => ?_) (fun h => ?_)
    · replace hf := g_ip h hf
      refine g_lv (lv' := [(0, .ref a_o), (1, .int v1), (2, .int v2)]) [0, 1, 2] rfl ?_
      exact w_Co_tell_L86 (a_o := a_o) (a_o_prices := a_o_prices) (a_o_lamps := a_o_lamps) (a_o_before := a_o_before) (a_o_after := a_o_after) (a_o_sorted := a_o_sorted) C   v1 v2 x_o_done x_o_undone x_o_prices x_o_lamps x_o_before x_o_after hf
    · replace hf := g_in h hf
      refine g_aload_n (pc' := 47) C 0 d_Co_tell_46 rfl rfl ?_
      refine g_get (pc' := 50) C kf_Co 1 mw_1_184 d_Co_tell_47 rfl 0 rfl (by decide) rfl ?_
      refine g_aload_n (pc' := 51) C 0 d_Co_tell_50 rfl rfl ?_
      refine g_get (pc' := 54) C kf_Co 5 mw_1_188 d_Co_tell_51 rfl 0 rfl (by decide) rfl ?_
      refine g_iload_n (pc' := 55) C 1 d_Co_tell_54 rfl rfl ?_
      have hb := g_ck hf
      replace hf := g_in hb hf
      refine g_iast (pc' := 56) (ws' := [O_Co a_o a_o_prices a_o_lamps a_o_before a_o_after a_o_sorted x_o_done x_o_undone, A_I dA a_o_prices 10 x_o_prices, A_I dA a_o_lamps 40 (upd x_o_lamps (Int32.toNatClampNeg x_o_done) v1), A_I dA a_o_before 40 x_o_before, A_I dA a_o_after 40 x_o_after]) C d_Co_tell_55 rfl 2 rfl hb rfl ?_
      refine g_aload_n (pc' := 57) C 0 d_Co_tell_56 rfl rfl ?_
      refine g_get (pc' := 60) C kf_Co 2 mw_1_185 d_Co_tell_57 rfl 0 rfl (by decide) rfl ?_
      refine g_aload_n (pc' := 61) C 0 d_Co_tell_60 rfl rfl ?_
      refine g_get (pc' := 64) C kf_Co 5 mw_1_188 d_Co_tell_61 rfl 0 rfl (by decide) rfl ?_
      refine g_iload_n (pc' := 65) C 3 d_Co_tell_64 rfl rfl ?_
      have hb := g_ck hf
      replace hf := g_in hb hf
      refine g_iast (pc' := 66) (ws' := [O_Co a_o a_o_prices a_o_lamps a_o_before a_o_after a_o_sorted x_o_done x_o_undone, A_I dA a_o_prices 10 x_o_prices, A_I dA a_o_lamps 40 (upd x_o_lamps (Int32.toNatClampNeg x_o_done) v1), A_I dA a_o_before 40 (upd x_o_before (Int32.toNatClampNeg x_o_done) v3), A_I dA a_o_after 40 x_o_after]) C d_Co_tell_65 rfl 3 rfl hb rfl ?_
      refine g_aload_n (pc' := 67) C 0 d_Co_tell_66 rfl rfl ?_
      refine g_get (pc' := 70) C kf_Co 3 mw_1_186 d_Co_tell_67 rfl 0 rfl (by decide) rfl ?_
      refine g_aload_n (pc' := 71) C 0 d_Co_tell_70 rfl rfl ?_
      refine g_get (pc' := 74) C kf_Co 5 mw_1_188 d_Co_tell_71 rfl 0 rfl (by decide) rfl ?_
      refine g_iload_n (pc' := 75) C 2 d_Co_tell_74 rfl rfl ?_
      have hb := g_ck hf
      replace hf := g_in hb hf
      refine g_iast (pc' := 76) (ws' := [O_Co a_o a_o_prices a_o_lamps a_o_before a_o_after a_o_sorted x_o_done x_o_undone, A_I dA a_o_prices 10 x_o_prices, A_I dA a_o_lamps 40 (upd x_o_lamps (Int32.toNatClampNeg x_o_done) v1), A_I dA a_o_before 40 (upd x_o_before (Int32.toNatClampNeg x_o_done) v3), A_I dA a_o_after 40 (upd x_o_after (Int32.toNatClampNeg x_o_done) v2)]) C d_Co_tell_75 rfl 4 rfl hb rfl ?_
      refine g_aload_n (pc' := 77) C 0 d_Co_tell_76 rfl rfl ?_
      refine g_dup (pc' := 78) C d_Co_tell_77 rfl rfl ?_
      refine g_get (pc' := 81) C kf_Co 5 mw_1_188 d_Co_tell_78 rfl 0 rfl (by decide) rfl ?_
      refine g_iconst (pc' := 82) (v := 1) C d_Co_tell_81 rfl rfl ?_
      refine g_iadd (pc' := 83) C d_Co_tell_82 rfl ?_
      refine g_put (pc' := 86) (ws' := [O_Co a_o a_o_prices a_o_lamps a_o_before a_o_after a_o_sorted (x_o_done + (1 : Int32)) x_o_undone, A_I dA a_o_prices 10 x_o_prices, A_I dA a_o_lamps 40 (upd x_o_lamps (Int32.toNatClampNeg x_o_done) v1), A_I dA a_o_before 40 (upd x_o_before (Int32.toNatClampNeg x_o_done) v3), A_I dA a_o_after 40 (upd x_o_after (Int32.toNatClampNeg x_o_done) v2)]) C kf_Co 5 mw_1_188 d_Co_tell_83 rfl 0 rfl (by decide) rfl rfl rfl (Nat.le_of_ble_eq_true rfl) rfl ?_
      refine g_lv (lv' := [(0, .ref a_o), (1, .int v1), (2, .int v2)]) [0, 1, 2] rfl ?_
      exact w_Co_tell_L86 (a_o := a_o) (a_o_prices := a_o_prices) (a_o_lamps := a_o_lamps) (a_o_before := a_o_before) (a_o_after := a_o_after) (a_o_sorted := a_o_sorted) C   v1 v2 (x_o_done + (1 : Int32)) x_o_undone x_o_prices (upd x_o_lamps (Int32.toNatClampNeg x_o_done) v1) (upd x_o_before (Int32.toNatClampNeg x_o_done) v3) (upd x_o_after (Int32.toNatClampNeg x_o_done) v2) hf
def f_Co_tell  (p1 : Int32) (p2 : Int32) (x_o_done : Int32) (x_o_undone : Int32) (x_o_prices : Nat → Int32) (x_o_lamps : Nat → Int32) (x_o_before : Nat → Int32) (x_o_after : Nat → Int32) : Option (Int32 × Int32 × (Nat → Int32) × (Nat → Int32) × (Nat → Int32) × (Nat → Int32)) :=
  (f_Co_of  p1 x_o_prices).bind fun r3 =>
  if p2 = r3 then
    (some (x_o_done, x_o_undone, x_o_prices, x_o_lamps, x_o_before, x_o_after))
  else
    (if x_o_done < (40 : Int32) then
      (f_Co_tell_L30  p1 p2 r3 x_o_done (0 : Int32) x_o_prices x_o_lamps x_o_before x_o_after)
    else
      ((f_Co_dropOldest  x_o_done x_o_lamps x_o_before x_o_after).bind fun (u5, u6, u7, u8) =>
      f_Co_tell_L30  p1 p2 r3 u5 (0 : Int32) x_o_prices u6 u7 u8))
set_option maxRecDepth 20000 in
theorem c_Co_tell {l : Launch} {D : va_G} {dA : Nat → ClassId} {a_o a_o_prices a_o_lamps a_o_before a_o_after a_o_sorted : Nat}  {p1 : Int32} {p2 : Int32} {x_o_done : Int32} {x_o_undone : Int32} {x_o_prices : Nat → Int32} {x_o_lamps : Nat → Int32} {x_o_before : Nat → Int32} {x_o_after : Nat → Int32} {o_x_o_done : Int32} {o_x_o_undone : Int32} {o_x_o_prices : Nat → Int32} {o_x_o_lamps : Nat → Int32} {o_x_o_before : Nat → Int32} {o_x_o_after : Nat → Int32}   (hf : f_Co_tell  p1 p2 x_o_done x_o_undone x_o_prices x_o_lamps x_o_before x_o_after = some (o_x_o_done, o_x_o_undone, o_x_o_prices, o_x_o_lamps, o_x_o_before, o_x_o_after)) : CT l y_Co_tell prog_3_method_4_code 4 none { frames := 2, cells := 0, slots := 0, locals := 60 } D dA [.ref a_o, .int p1, .int p2] [O_Co a_o a_o_prices a_o_lamps a_o_before a_o_after a_o_sorted x_o_done x_o_undone, A_I dA a_o_prices 10 x_o_prices, A_I dA a_o_lamps 40 x_o_lamps, A_I dA a_o_before 40 x_o_before, A_I dA a_o_after 40 x_o_after] none (fun _ : Unit => [O_Co a_o a_o_prices a_o_lamps a_o_before a_o_after a_o_sorted o_x_o_done o_x_o_undone, A_I dA a_o_prices 10 o_x_o_prices, A_I dA a_o_lamps 40 o_x_o_lamps, A_I dA a_o_before 40 o_x_o_before, A_I dA a_o_after 40 o_x_o_after]) := by
  refine ct_intro "OneLamp$Costs" rfl (by decide +kernel) (Nat.le_of_ble_eq_true rfl) [(0, .ref a_o), (1, .int p1), (2, .int p2)] rfl (fun _ C => ?_)
  unfold f_Co_tell at hf
  refine g_aload_n (pc' := 1) C 0 d_Co_tell_0 rfl rfl ?_
  refine g_iload_n (pc' := 2) C 1 d_Co_tell_1 rfl rfl ?_
  replace hf := g_bi hf; obtain ⟨r3, hc4, hf⟩ := hf
  refine g_callV (pc' := 5) (st1 := [.int r3]) (ws1 := [O_Co a_o a_o_prices a_o_lamps a_o_before a_o_after a_o_sorted x_o_done x_o_undone, A_I dA a_o_prices 10 x_o_prices, A_I dA a_o_lamps 40 x_o_lamps, A_I dA a_o_before 40 x_o_before, A_I dA a_o_after 40 x_o_after]) C (c_Co_of (l := l) (D := D) (dA := dA) (a_o := a_o) (a_o_prices := a_o_prices) (a_o_lamps := a_o_lamps) (a_o_before := a_o_before) (a_o_after := a_o_after) (a_o_sorted := a_o_sorted) (x_o_done := x_o_done) (x_o_undone := x_o_undone)   hc4) yy_Co_of kf_Co rfl mw_2_191 d_Co_tell_2 rfl [] rfl rfl (Nat.le_of_ble_eq_true rfl) ⟨Nat.le_of_ble_eq_true rfl, Nat.le_of_ble_eq_true rfl⟩ rfl rfl (Nat.zero_le _) (Nat.zero_le _) 0 rfl [0, 1] rfl (by decide +kernel) rfl (g_lay_sel _ _ _ _ [(0, true), (1, true), (2, false), (3, false), (4, false)] (by decide +kernel) rfl (by decide +kernel) rfl rfl) rfl ?_
  refine g_istore_n (pc' := 6) (lv' := [(3, .int r3), (0, .ref a_o), (1, .int p1), (2, .int p2)]) C d_Co_tell_5 rfl (by decide) rfl ?_
  refine g_iload_n (pc' := 7) C 3 d_Co_tell_6 rfl rfl ?_
  refine g_iload_n (pc' := 8) C 0 d_Co_tell_7 rfl rfl ?_
  refine g_icmp_ne (pc' := 11) (tgt := 12) C d_Co_tell_8 rfl rfl (fun h => ?_) (fun h => ?_)
  · replace hf := g_in h hf
    refine g_aload_n (pc' := 13) C 1 d_Co_tell_12 rfl rfl ?_
    refine g_iconst (pc' := 14) (v := 0) C d_Co_tell_13 rfl rfl ?_
    refine g_put (pc' := 17) (ws' := [O_Co a_o a_o_prices a_o_lamps a_o_before a_o_after a_o_sorted x_o_done (0 : Int32), A_I dA a_o_prices 10 x_o_prices, A_I dA a_o_lamps 40 x_o_lamps, A_I dA a_o_before 40 x_o_before, A_I dA a_o_after 40 x_o_after]) C kf_Co 6 mw_1_190 d_Co_tell_14 rfl 0 rfl (by decide) rfl rfl rfl (Nat.le_of_ble_eq_true rfl) rfl ?_
    refine g_aload_n (pc' := 18) C 1 d_Co_tell_17 rfl rfl ?_
    refine g_get (pc' := 21) C kf_Co 5 mw_1_188 d_Co_tell_18 rfl 0 rfl (by decide) rfl ?_
    refine g_bipush (pc' := 23) (v := 40) C d_Co_tell_21 rfl rfl ?_
    refine g_icmp_lt (pc' := 26) (tgt := 30) C d_Co_tell_23 rfl rfl (fun h => ?_) (fun h => ?_)
    · replace hf := g_ip h hf
      refine g_lv (lv' := [(0, .ref a_o), (1, .int p1), (2, .int p2), (3, .int r3)]) [1, 2, 3, 0] rfl ?_
      exact w_Co_tell_L30 (a_o := a_o) (a_o_prices := a_o_prices) (a_o_lamps := a_o_lamps) (a_o_before := a_o_before) (a_o_after := a_o_after) (a_o_sorted := a_o_sorted) C   p1 p2 r3 x_o_done (0 : Int32) x_o_prices x_o_lamps x_o_before x_o_after hf
    · replace hf := g_in h hf
      refine g_aload_n (pc' := 27) C 1 d_Co_tell_26 rfl rfl ?_
      replace hf := g_bi hf; obtain ⟨⟨u5, u6, u7, u8⟩, hc9, hf⟩ := hf
      dsimp only at hf
      refine g_callV (pc' := 30) (st1 := []) (ws1 := [O_Co a_o a_o_prices a_o_lamps a_o_before a_o_after a_o_sorted u5 (0 : Int32), A_I dA a_o_prices 10 x_o_prices, A_I dA a_o_lamps 40 u6, A_I dA a_o_before 40 u7, A_I dA a_o_after 40 u8]) C (c_Co_dropOldest (l := l) (D := D) (dA := dA) (a_o := a_o) (a_o_prices := a_o_prices) (a_o_lamps := a_o_lamps) (a_o_before := a_o_before) (a_o_after := a_o_after) (a_o_sorted := a_o_sorted) (x_o_undone := (0 : Int32))   hc9) yy_Co_dropOldest kf_Co rfl mw_2_192 d_Co_tell_27 rfl [] rfl rfl (Nat.le_of_ble_eq_true rfl) ⟨Nat.le_of_ble_eq_true rfl, Nat.le_of_ble_eq_true rfl⟩ rfl rfl (Nat.zero_le _) (Nat.zero_le _) 0 rfl [0, 2, 3, 4] rfl (by decide +kernel) rfl (g_lay_sel _ _ _ _ [(0, true), (1, false), (1, true), (2, true), (3, true)] (by decide +kernel) rfl (by decide +kernel) rfl rfl) rfl ?_
      refine g_lv (lv' := [(0, .ref a_o), (1, .int p1), (2, .int p2), (3, .int r3)]) [1, 2, 3, 0] rfl ?_
      exact w_Co_tell_L30 (a_o := a_o) (a_o_prices := a_o_prices) (a_o_lamps := a_o_lamps) (a_o_before := a_o_before) (a_o_after := a_o_after) (a_o_sorted := a_o_sorted) C   p1 p2 r3 u5 (0 : Int32) x_o_prices u6 u7 u8 hf
  · replace hf := g_ip h hf
    replace hf := g_o2 hf; obtain ⟨h1, hf⟩ := hf; subst h1
    replace hf := g_o2 hf; obtain ⟨h1, hf⟩ := hf; subst h1
    replace hf := g_o2 hf; obtain ⟨h1, hf⟩ := hf; subst h1
    replace hf := g_o2 hf; obtain ⟨h1, hf⟩ := hf; subst h1
    replace hf := g_o2 hf; obtain ⟨h1, hf⟩ := hf; subst h1
    replace hf := Option.some.inj hf; subst hf
    exact g_vret C d_Co_tell_11 () rfl
def y_Co_takeBack : MethodName := ⟨"OneLamp$Costs", "takeBack", "()Z"⟩
theorem yy_Co_takeBack : YV y_Co_takeBack prog_3_method_6_code 1 (some .boolean) 0 := ⟨mw_3_229, mw_1_8, mw_3_227, mw_3_228, by decide +kernel, by decide +kernel, by decide +kernel⟩
theorem d_Co_takeBack_0 : decode prog_3_method_6_code 0 = .ok (.aload_n 0, 1) := by decide +kernel
theorem d_Co_takeBack_1 : decode prog_3_method_6_code 1 = .ok (.getfield 41, 3) := by decide +kernel
theorem d_Co_takeBack_4 : decode prog_3_method_6_code 4 = .ok (.ifCond .le 12, 3) := by decide +kernel
theorem d_Co_takeBack_7 : decode prog_3_method_6_code 7 = .ok (.aload_n 0, 1) := by decide +kernel
theorem d_Co_takeBack_8 : decode prog_3_method_6_code 8 = .ok (.getfield 41, 3) := by decide +kernel
theorem d_Co_takeBack_11 : decode prog_3_method_6_code 11 = .ok (.bipush 40, 2) := by decide +kernel
theorem d_Co_takeBack_13 : decode prog_3_method_6_code 13 = .ok (.if_icmp .le 5, 3) := by decide +kernel
theorem d_Co_takeBack_16 : decode prog_3_method_6_code 16 = .ok (.iconst 0, 1) := by decide +kernel
theorem d_Co_takeBack_17 : decode prog_3_method_6_code 17 = .ok (.ireturn, 1) := by decide +kernel
theorem d_Co_takeBack_18 : decode prog_3_method_6_code 18 = .ok (.aload_n 0, 1) := by decide +kernel
theorem d_Co_takeBack_19 : decode prog_3_method_6_code 19 = .ok (.dup, 1) := by decide +kernel
theorem d_Co_takeBack_20 : decode prog_3_method_6_code 20 = .ok (.getfield 41, 3) := by decide +kernel
theorem d_Co_takeBack_23 : decode prog_3_method_6_code 23 = .ok (.iconst 1, 1) := by decide +kernel
theorem d_Co_takeBack_24 : decode prog_3_method_6_code 24 = .ok (.isub, 1) := by decide +kernel
theorem d_Co_takeBack_25 : decode prog_3_method_6_code 25 = .ok (.putfield 41, 3) := by decide +kernel
theorem d_Co_takeBack_28 : decode prog_3_method_6_code 28 = .ok (.aload_n 0, 1) := by decide +kernel
theorem d_Co_takeBack_29 : decode prog_3_method_6_code 29 = .ok (.dup, 1) := by decide +kernel
theorem d_Co_takeBack_30 : decode prog_3_method_6_code 30 = .ok (.getfield 37, 3) := by decide +kernel
theorem d_Co_takeBack_33 : decode prog_3_method_6_code 33 = .ok (.iconst 1, 1) := by decide +kernel
theorem d_Co_takeBack_34 : decode prog_3_method_6_code 34 = .ok (.iadd, 1) := by decide +kernel
theorem d_Co_takeBack_35 : decode prog_3_method_6_code 35 = .ok (.putfield 37, 3) := by decide +kernel
theorem d_Co_takeBack_38 : decode prog_3_method_6_code 38 = .ok (.aload_n 0, 1) := by decide +kernel
theorem d_Co_takeBack_39 : decode prog_3_method_6_code 39 = .ok (.aload_n 0, 1) := by decide +kernel
theorem d_Co_takeBack_40 : decode prog_3_method_6_code 40 = .ok (.getfield 21, 3) := by decide +kernel
theorem d_Co_takeBack_43 : decode prog_3_method_6_code 43 = .ok (.aload_n 0, 1) := by decide +kernel
theorem d_Co_takeBack_44 : decode prog_3_method_6_code 44 = .ok (.getfield 41, 3) := by decide +kernel
theorem d_Co_takeBack_47 : decode prog_3_method_6_code 47 = .ok (.iaload, 1) := by decide +kernel
theorem d_Co_takeBack_48 : decode prog_3_method_6_code 48 = .ok (.aload_n 0, 1) := by decide +kernel
theorem d_Co_takeBack_49 : decode prog_3_method_6_code 49 = .ok (.getfield 24, 3) := by decide +kernel
theorem d_Co_takeBack_52 : decode prog_3_method_6_code 52 = .ok (.aload_n 0, 1) := by decide +kernel
theorem d_Co_takeBack_53 : decode prog_3_method_6_code 53 = .ok (.getfield 41, 3) := by decide +kernel
theorem d_Co_takeBack_56 : decode prog_3_method_6_code 56 = .ok (.iaload, 1) := by decide +kernel
theorem d_Co_takeBack_57 : decode prog_3_method_6_code 57 = .ok (.invokevirtual 47, 3) := by decide +kernel
theorem d_Co_takeBack_60 : decode prog_3_method_6_code 60 = .ok (.iconst 1, 1) := by decide +kernel
theorem d_Co_takeBack_61 : decode prog_3_method_6_code 61 = .ok (.ireturn, 1) := by decide +kernel
def f_Co_takeBack  (x_o_done : Int32) (x_o_undone : Int32) (x_o_lamps : Nat → Int32) (x_o_before : Nat → Int32) (x_o_prices : Nat → Int32) : Option (Bool × Int32 × Int32 × (Nat → Int32)) :=
  if x_o_done ≤ 0 then
    (some (false, x_o_done, x_o_undone, x_o_prices))
  else
    (if x_o_done ≤ (40 : Int32) then
      (if (x_o_done - (1 : Int32)) < 0 ∨ 40 ≤ Int32.toNatClampNeg (x_o_done - (1 : Int32)) then none else
      if (x_o_done - (1 : Int32)) < 0 ∨ 40 ≤ Int32.toNatClampNeg (x_o_done - (1 : Int32)) then none else
      (f_Co_price  (x_o_lamps (Int32.toNatClampNeg (x_o_done - (1 : Int32)))) (x_o_before (Int32.toNatClampNeg (x_o_done - (1 : Int32)))) x_o_prices).bind fun u1 =>
      some (true, (x_o_done - (1 : Int32)), (x_o_undone + (1 : Int32)), u1))
    else
      (some (false, x_o_done, x_o_undone, x_o_prices)))
set_option maxRecDepth 20000 in
theorem c_Co_takeBack {l : Launch} {D : va_G} {dA : Nat → ClassId} {a_o a_o_prices a_o_lamps a_o_before a_o_after a_o_sorted : Nat}  {x_o_done : Int32} {x_o_undone : Int32} {x_o_lamps : Nat → Int32} {x_o_before : Nat → Int32} {x_o_prices : Nat → Int32} {r0 : Bool} {o_x_o_done : Int32} {o_x_o_undone : Int32} {o_x_o_prices : Nat → Int32}   (hf : f_Co_takeBack  x_o_done x_o_undone x_o_lamps x_o_before x_o_prices = some (r0, o_x_o_done, o_x_o_undone, o_x_o_prices)) : CT l y_Co_takeBack prog_3_method_6_code 1 (some .boolean) { frames := 1, cells := 0, slots := 0, locals := 22 } D dA [.ref a_o] [O_Co a_o a_o_prices a_o_lamps a_o_before a_o_after a_o_sorted x_o_done x_o_undone, A_I dA a_o_lamps 40 x_o_lamps, A_I dA a_o_before 40 x_o_before, A_I dA a_o_prices 10 x_o_prices] (some (.int (b2i r0))) (fun _ : Unit => [O_Co a_o a_o_prices a_o_lamps a_o_before a_o_after a_o_sorted o_x_o_done o_x_o_undone, A_I dA a_o_lamps 40 x_o_lamps, A_I dA a_o_before 40 x_o_before, A_I dA a_o_prices 10 o_x_o_prices]) := by
  refine ct_intro "OneLamp$Costs" rfl (by decide +kernel) (Nat.le_of_ble_eq_true rfl) [(0, .ref a_o)] rfl (fun _ C => ?_)
  unfold f_Co_takeBack at hf
  refine g_aload_n (pc' := 1) C 0 d_Co_takeBack_0 rfl rfl ?_
  refine g_get (pc' := 4) C kf_Co 5 mw_1_188 d_Co_takeBack_1 rfl 0 rfl (by decide) rfl ?_
  refine g_if_le (pc' := 7) (tgt := 16) C d_Co_takeBack_4 rfl rfl (fun h => ?_) (fun h => ?_)
  · replace hf := g_ip h hf
    refine g_iconst (pc' := 17) (v := 0) C d_Co_takeBack_16 rfl rfl ?_
    replace hf := g_o2 hf; obtain ⟨h1, hf⟩ := hf; subst h1
    replace hf := g_o2 hf; obtain ⟨h1, hf⟩ := hf; subst h1
    replace hf := g_o2 hf; obtain ⟨h1, hf⟩ := hf; subst h1
    replace hf := Option.some.inj hf; subst hf
    exact g_zret C d_Co_takeBack_17 () rfl
  · replace hf := g_in h hf
    refine g_aload_n (pc' := 8) C 0 d_Co_takeBack_7 rfl rfl ?_
    refine g_get (pc' := 11) C kf_Co 5 mw_1_188 d_Co_takeBack_8 rfl 0 rfl (by decide) rfl ?_
    refine g_bipush (pc' := 13) (v := 40) C d_Co_takeBack_11 rfl rfl ?_
    refine g_icmp_le (pc' := 16) (tgt := 18) C d_Co_takeBack_13 rfl rfl (fun h => ?_) (fun h => ?_)
    · replace hf := g_ip h hf
      refine g_aload_n (pc' := 19) C 0 d_Co_takeBack_18 rfl rfl ?_
      refine g_dup (pc' := 20) C d_Co_takeBack_19 rfl rfl ?_
      refine g_get (pc' := 23) C kf_Co 5 mw_1_188 d_Co_takeBack_20 rfl 0 rfl (by decide) rfl ?_
      refine g_iconst (pc' := 24) (v := 1) C d_Co_takeBack_23 rfl rfl ?_
      refine g_isub (pc' := 25) C d_Co_takeBack_24 rfl ?_
      refine g_put (pc' := 28) (ws' := [O_Co a_o a_o_prices a_o_lamps a_o_before a_o_after a_o_sorted (x_o_done - (1 : Int32)) x_o_undone, A_I dA a_o_lamps 40 x_o_lamps, A_I dA a_o_before 40 x_o_before, A_I dA a_o_prices 10 x_o_prices]) C kf_Co 5 mw_1_188 d_Co_takeBack_25 rfl 0 rfl (by decide) rfl rfl rfl (Nat.le_of_ble_eq_true rfl) rfl ?_
      refine g_aload_n (pc' := 29) C 0 d_Co_takeBack_28 rfl rfl ?_
      refine g_dup (pc' := 30) C d_Co_takeBack_29 rfl rfl ?_
      refine g_get (pc' := 33) C kf_Co 6 mw_1_190 d_Co_takeBack_30 rfl 0 rfl (by decide) rfl ?_
      refine g_iconst (pc' := 34) (v := 1) C d_Co_takeBack_33 rfl rfl ?_
      refine g_iadd (pc' := 35) C d_Co_takeBack_34 rfl ?_
      refine g_put (pc' := 38) (ws' := [O_Co a_o a_o_prices a_o_lamps a_o_before a_o_after a_o_sorted (x_o_done - (1 : Int32)) (x_o_undone + (1 : Int32)), A_I dA a_o_lamps 40 x_o_lamps, A_I dA a_o_before 40 x_o_before, A_I dA a_o_prices 10 x_o_prices]) C kf_Co 6 mw_1_190 d_Co_takeBack_35 rfl 0 rfl (by decide) rfl rfl rfl (Nat.le_of_ble_eq_true rfl) rfl ?_
      refine g_aload_n (pc' := 39) C 0 d_Co_takeBack_38 rfl rfl ?_
      refine g_aload_n (pc' := 40) C 0 d_Co_takeBack_39 rfl rfl ?_
      refine g_get (pc' := 43) C kf_Co 1 mw_1_184 d_Co_takeBack_40 rfl 0 rfl (by decide) rfl ?_
      refine g_aload_n (pc' := 44) C 0 d_Co_takeBack_43 rfl rfl ?_
      refine g_get (pc' := 47) C kf_Co 5 mw_1_188 d_Co_takeBack_44 rfl 0 rfl (by decide) rfl ?_
      have hb := g_ck hf
      replace hf := g_in hb hf
      refine g_iald (pc' := 48) C d_Co_takeBack_47 rfl 1 rfl hb ?_
      refine g_aload_n (pc' := 49) C 0 d_Co_takeBack_48 rfl rfl ?_
      refine g_get (pc' := 52) C kf_Co 2 mw_1_185 d_Co_takeBack_49 rfl 0 rfl (by decide) rfl ?_
      refine g_aload_n (pc' := 53) C 0 d_Co_takeBack_52 rfl rfl ?_
      refine g_get (pc' := 56) C kf_Co 5 mw_1_188 d_Co_takeBack_53 rfl 0 rfl (by decide) rfl ?_
      have hb := g_ck hf
      replace hf := g_in hb hf
      refine g_iald (pc' := 57) C d_Co_takeBack_56 rfl 2 rfl hb ?_
      replace hf := g_bi hf; obtain ⟨u1, hc2, hf⟩ := hf
      refine g_callV (pc' := 60) (st1 := []) (ws1 := [O_Co a_o a_o_prices a_o_lamps a_o_before a_o_after a_o_sorted (x_o_done - (1 : Int32)) (x_o_undone + (1 : Int32)), A_I dA a_o_lamps 40 x_o_lamps, A_I dA a_o_before 40 x_o_before, A_I dA a_o_prices 10 u1]) C (c_Co_price (l := l) (D := D) (dA := dA) (a_o := a_o) (a_o_prices := a_o_prices) (a_o_lamps := a_o_lamps) (a_o_before := a_o_before) (a_o_after := a_o_after) (a_o_sorted := a_o_sorted) (x_o_done := (x_o_done - (1 : Int32))) (x_o_undone := (x_o_undone + (1 : Int32)))   hc2) yy_Co_price kf_Co rfl mw_2_197 d_Co_takeBack_57 rfl [] rfl rfl (Nat.le_of_ble_eq_true rfl) ⟨Nat.le_of_ble_eq_true rfl, Nat.le_of_ble_eq_true rfl⟩ rfl rfl (Nat.zero_le _) (Nat.zero_le _) 0 rfl [0, 3] rfl (by decide +kernel) rfl (g_lay_sel _ _ _ _ [(0, true), (1, false), (2, false), (1, true)] (by decide +kernel) rfl (by decide +kernel) rfl rfl) rfl ?_
      refine g_iconst (pc' := 61) (v := 1) C d_Co_takeBack_60 rfl rfl ?_
      replace hf := g_o2 hf; obtain ⟨h1, hf⟩ := hf; subst h1
      replace hf := g_o2 hf; obtain ⟨h1, hf⟩ := hf; subst h1
      replace hf := g_o2 hf; obtain ⟨h1, hf⟩ := hf; subst h1
      replace hf := Option.some.inj hf; subst hf
      exact g_zret C d_Co_takeBack_61 () rfl
    · replace hf := g_in h hf
      refine g_iconst (pc' := 17) (v := 0) C d_Co_takeBack_16 rfl rfl ?_
      replace hf := g_o2 hf; obtain ⟨h1, hf⟩ := hf; subst h1
      replace hf := g_o2 hf; obtain ⟨h1, hf⟩ := hf; subst h1
      replace hf := g_o2 hf; obtain ⟨h1, hf⟩ := hf; subst h1
      replace hf := Option.some.inj hf; subst hf
      exact g_zret C d_Co_takeBack_17 () rfl
def y_Co_doAgain : MethodName := ⟨"OneLamp$Costs", "doAgain", "()Z"⟩
theorem yy_Co_doAgain : YV y_Co_doAgain prog_3_method_7_code 1 (some .boolean) 0 := ⟨mw_3_237, mw_1_8, mw_3_235, mw_3_236, by decide +kernel, by decide +kernel, by decide +kernel⟩
theorem d_Co_doAgain_0 : decode prog_3_method_7_code 0 = .ok (.aload_n 0, 1) := by decide +kernel
theorem d_Co_doAgain_1 : decode prog_3_method_7_code 1 = .ok (.getfield 37, 3) := by decide +kernel
theorem d_Co_doAgain_4 : decode prog_3_method_7_code 4 = .ok (.ifCond .le 19, 3) := by decide +kernel
theorem d_Co_doAgain_7 : decode prog_3_method_7_code 7 = .ok (.aload_n 0, 1) := by decide +kernel
theorem d_Co_doAgain_8 : decode prog_3_method_7_code 8 = .ok (.getfield 41, 3) := by decide +kernel
theorem d_Co_doAgain_11 : decode prog_3_method_7_code 11 = .ok (.ifCond .lt 12, 3) := by decide +kernel
theorem d_Co_doAgain_14 : decode prog_3_method_7_code 14 = .ok (.aload_n 0, 1) := by decide +kernel
theorem d_Co_doAgain_15 : decode prog_3_method_7_code 15 = .ok (.getfield 41, 3) := by decide +kernel
theorem d_Co_doAgain_18 : decode prog_3_method_7_code 18 = .ok (.bipush 40, 2) := by decide +kernel
theorem d_Co_doAgain_20 : decode prog_3_method_7_code 20 = .ok (.if_icmp .lt 5, 3) := by decide +kernel
theorem d_Co_doAgain_23 : decode prog_3_method_7_code 23 = .ok (.iconst 0, 1) := by decide +kernel
theorem d_Co_doAgain_24 : decode prog_3_method_7_code 24 = .ok (.ireturn, 1) := by decide +kernel
theorem d_Co_doAgain_25 : decode prog_3_method_7_code 25 = .ok (.aload_n 0, 1) := by decide +kernel
theorem d_Co_doAgain_26 : decode prog_3_method_7_code 26 = .ok (.aload_n 0, 1) := by decide +kernel
theorem d_Co_doAgain_27 : decode prog_3_method_7_code 27 = .ok (.getfield 21, 3) := by decide +kernel
theorem d_Co_doAgain_30 : decode prog_3_method_7_code 30 = .ok (.aload_n 0, 1) := by decide +kernel
theorem d_Co_doAgain_31 : decode prog_3_method_7_code 31 = .ok (.getfield 41, 3) := by decide +kernel
theorem d_Co_doAgain_34 : decode prog_3_method_7_code 34 = .ok (.iaload, 1) := by decide +kernel
theorem d_Co_doAgain_35 : decode prog_3_method_7_code 35 = .ok (.aload_n 0, 1) := by decide +kernel
theorem d_Co_doAgain_36 : decode prog_3_method_7_code 36 = .ok (.getfield 27, 3) := by decide +kernel
theorem d_Co_doAgain_39 : decode prog_3_method_7_code 39 = .ok (.aload_n 0, 1) := by decide +kernel
theorem d_Co_doAgain_40 : decode prog_3_method_7_code 40 = .ok (.getfield 41, 3) := by decide +kernel
theorem d_Co_doAgain_43 : decode prog_3_method_7_code 43 = .ok (.iaload, 1) := by decide +kernel
theorem d_Co_doAgain_44 : decode prog_3_method_7_code 44 = .ok (.invokevirtual 47, 3) := by decide +kernel
theorem d_Co_doAgain_47 : decode prog_3_method_7_code 47 = .ok (.aload_n 0, 1) := by decide +kernel
theorem d_Co_doAgain_48 : decode prog_3_method_7_code 48 = .ok (.dup, 1) := by decide +kernel
theorem d_Co_doAgain_49 : decode prog_3_method_7_code 49 = .ok (.getfield 41, 3) := by decide +kernel
theorem d_Co_doAgain_52 : decode prog_3_method_7_code 52 = .ok (.iconst 1, 1) := by decide +kernel
theorem d_Co_doAgain_53 : decode prog_3_method_7_code 53 = .ok (.iadd, 1) := by decide +kernel
theorem d_Co_doAgain_54 : decode prog_3_method_7_code 54 = .ok (.putfield 41, 3) := by decide +kernel
theorem d_Co_doAgain_57 : decode prog_3_method_7_code 57 = .ok (.aload_n 0, 1) := by decide +kernel
theorem d_Co_doAgain_58 : decode prog_3_method_7_code 58 = .ok (.dup, 1) := by decide +kernel
theorem d_Co_doAgain_59 : decode prog_3_method_7_code 59 = .ok (.getfield 37, 3) := by decide +kernel
theorem d_Co_doAgain_62 : decode prog_3_method_7_code 62 = .ok (.iconst 1, 1) := by decide +kernel
theorem d_Co_doAgain_63 : decode prog_3_method_7_code 63 = .ok (.isub, 1) := by decide +kernel
theorem d_Co_doAgain_64 : decode prog_3_method_7_code 64 = .ok (.putfield 37, 3) := by decide +kernel
theorem d_Co_doAgain_67 : decode prog_3_method_7_code 67 = .ok (.iconst 1, 1) := by decide +kernel
theorem d_Co_doAgain_68 : decode prog_3_method_7_code 68 = .ok (.ireturn, 1) := by decide +kernel
def f_Co_doAgain  (x_o_done : Int32) (x_o_undone : Int32) (x_o_lamps : Nat → Int32) (x_o_after : Nat → Int32) (x_o_prices : Nat → Int32) : Option (Bool × Int32 × Int32 × (Nat → Int32)) :=
  if x_o_undone ≤ 0 then
    (some (false, x_o_done, x_o_undone, x_o_prices))
  else
    (if x_o_done < 0 then
      (some (false, x_o_done, x_o_undone, x_o_prices))
    else
      (if x_o_done < (40 : Int32) then
        (if x_o_done < 0 ∨ 40 ≤ Int32.toNatClampNeg x_o_done then none else
        if x_o_done < 0 ∨ 40 ≤ Int32.toNatClampNeg x_o_done then none else
        (f_Co_price  (x_o_lamps (Int32.toNatClampNeg x_o_done)) (x_o_after (Int32.toNatClampNeg x_o_done)) x_o_prices).bind fun u1 =>
        some (true, (x_o_done + (1 : Int32)), (x_o_undone - (1 : Int32)), u1))
      else
        (some (false, x_o_done, x_o_undone, x_o_prices))))
set_option maxRecDepth 20000 in
theorem c_Co_doAgain {l : Launch} {D : va_G} {dA : Nat → ClassId} {a_o a_o_prices a_o_lamps a_o_before a_o_after a_o_sorted : Nat}  {x_o_done : Int32} {x_o_undone : Int32} {x_o_lamps : Nat → Int32} {x_o_after : Nat → Int32} {x_o_prices : Nat → Int32} {r0 : Bool} {o_x_o_done : Int32} {o_x_o_undone : Int32} {o_x_o_prices : Nat → Int32}   (hf : f_Co_doAgain  x_o_done x_o_undone x_o_lamps x_o_after x_o_prices = some (r0, o_x_o_done, o_x_o_undone, o_x_o_prices)) : CT l y_Co_doAgain prog_3_method_7_code 1 (some .boolean) { frames := 1, cells := 0, slots := 0, locals := 22 } D dA [.ref a_o] [O_Co a_o a_o_prices a_o_lamps a_o_before a_o_after a_o_sorted x_o_done x_o_undone, A_I dA a_o_lamps 40 x_o_lamps, A_I dA a_o_after 40 x_o_after, A_I dA a_o_prices 10 x_o_prices] (some (.int (b2i r0))) (fun _ : Unit => [O_Co a_o a_o_prices a_o_lamps a_o_before a_o_after a_o_sorted o_x_o_done o_x_o_undone, A_I dA a_o_lamps 40 x_o_lamps, A_I dA a_o_after 40 x_o_after, A_I dA a_o_prices 10 o_x_o_prices]) := by
  refine ct_intro "OneLamp$Costs" rfl (by decide +kernel) (Nat.le_of_ble_eq_true rfl) [(0, .ref a_o)] rfl (fun _ C => ?_)
  unfold f_Co_doAgain at hf
  refine g_aload_n (pc' := 1) C 0 d_Co_doAgain_0 rfl rfl ?_
  refine g_get (pc' := 4) C kf_Co 6 mw_1_190 d_Co_doAgain_1 rfl 0 rfl (by decide) rfl ?_
  refine g_if_le (pc' := 7) (tgt := 23) C d_Co_doAgain_4 rfl rfl (fun h => ?_) (fun h => ?_)
  · replace hf := g_ip h hf
    refine g_iconst (pc' := 24) (v := 0) C d_Co_doAgain_23 rfl rfl ?_
    replace hf := g_o2 hf; obtain ⟨h1, hf⟩ := hf; subst h1
    replace hf := g_o2 hf; obtain ⟨h1, hf⟩ := hf; subst h1
    replace hf := g_o2 hf; obtain ⟨h1, hf⟩ := hf; subst h1
    replace hf := Option.some.inj hf; subst hf
    exact g_zret C d_Co_doAgain_24 () rfl
  · replace hf := g_in h hf
    refine g_aload_n (pc' := 8) C 0 d_Co_doAgain_7 rfl rfl ?_
    refine g_get (pc' := 11) C kf_Co 5 mw_1_188 d_Co_doAgain_8 rfl 0 rfl (by decide) rfl ?_
    refine g_if_lt (pc' := 14) (tgt := 23) C d_Co_doAgain_11 rfl rfl (fun h => ?_) (fun h => ?_)
    · replace hf := g_ip h hf
      refine g_iconst (pc' := 24) (v := 0) C d_Co_doAgain_23 rfl rfl ?_
      replace hf := g_o2 hf; obtain ⟨h1, hf⟩ := hf; subst h1
      replace hf := g_o2 hf; obtain ⟨h1, hf⟩ := hf; subst h1
      replace hf := g_o2 hf; obtain ⟨h1, hf⟩ := hf; subst h1
      replace hf := Option.some.inj hf; subst hf
      exact g_zret C d_Co_doAgain_24 () rfl
    · replace hf := g_in h hf
      refine g_aload_n (pc' := 15) C 0 d_Co_doAgain_14 rfl rfl ?_
      refine g_get (pc' := 18) C kf_Co 5 mw_1_188 d_Co_doAgain_15 rfl 0 rfl (by decide) rfl ?_
      refine g_bipush (pc' := 20) (v := 40) C d_Co_doAgain_18 rfl rfl ?_
      refine g_icmp_lt (pc' := 23) (tgt := 25) C d_Co_doAgain_20 rfl rfl (fun h => ?_) (fun h => ?_)
      · replace hf := g_ip h hf
        refine g_aload_n (pc' := 26) C 0 d_Co_doAgain_25 rfl rfl ?_
        refine g_aload_n (pc' := 27) C 0 d_Co_doAgain_26 rfl rfl ?_
        refine g_get (pc' := 30) C kf_Co 1 mw_1_184 d_Co_doAgain_27 rfl 0 rfl (by decide) rfl ?_
        refine g_aload_n (pc' := 31) C 0 d_Co_doAgain_30 rfl rfl ?_
        refine g_get (pc' := 34) C kf_Co 5 mw_1_188 d_Co_doAgain_31 rfl 0 rfl (by decide) rfl ?_
        have hb := g_ck hf
        replace hf := g_in hb hf
        refine g_iald (pc' := 35) C d_Co_doAgain_34 rfl 1 rfl hb ?_
        refine g_aload_n (pc' := 36) C 0 d_Co_doAgain_35 rfl rfl ?_
        refine g_get (pc' := 39) C kf_Co 3 mw_1_186 d_Co_doAgain_36 rfl 0 rfl (by decide) rfl ?_
        refine g_aload_n (pc' := 40) C 0 d_Co_doAgain_39 rfl rfl ?_
        refine g_get (pc' := 43) C kf_Co 5 mw_1_188 d_Co_doAgain_40 rfl 0 rfl (by decide) rfl ?_
        have hb := g_ck hf
        replace hf := g_in hb hf
        refine g_iald (pc' := 44) C d_Co_doAgain_43 rfl 2 rfl hb ?_
        replace hf := g_bi hf; obtain ⟨u1, hc2, hf⟩ := hf
        refine g_callV (pc' := 47) (st1 := []) (ws1 := [O_Co a_o a_o_prices a_o_lamps a_o_before a_o_after a_o_sorted x_o_done x_o_undone, A_I dA a_o_lamps 40 x_o_lamps, A_I dA a_o_after 40 x_o_after, A_I dA a_o_prices 10 u1]) C (c_Co_price (l := l) (D := D) (dA := dA) (a_o := a_o) (a_o_prices := a_o_prices) (a_o_lamps := a_o_lamps) (a_o_before := a_o_before) (a_o_after := a_o_after) (a_o_sorted := a_o_sorted) (x_o_done := x_o_done) (x_o_undone := x_o_undone)   hc2) yy_Co_price kf_Co rfl mw_2_197 d_Co_doAgain_44 rfl [] rfl rfl (Nat.le_of_ble_eq_true rfl) ⟨Nat.le_of_ble_eq_true rfl, Nat.le_of_ble_eq_true rfl⟩ rfl rfl (Nat.zero_le _) (Nat.zero_le _) 0 rfl [0, 3] rfl (by decide +kernel) rfl (g_lay_sel _ _ _ _ [(0, true), (1, false), (2, false), (1, true)] (by decide +kernel) rfl (by decide +kernel) rfl rfl) rfl ?_
        refine g_aload_n (pc' := 48) C 0 d_Co_doAgain_47 rfl rfl ?_
        refine g_dup (pc' := 49) C d_Co_doAgain_48 rfl rfl ?_
        refine g_get (pc' := 52) C kf_Co 5 mw_1_188 d_Co_doAgain_49 rfl 0 rfl (by decide) rfl ?_
        refine g_iconst (pc' := 53) (v := 1) C d_Co_doAgain_52 rfl rfl ?_
        refine g_iadd (pc' := 54) C d_Co_doAgain_53 rfl ?_
        refine g_put (pc' := 57) (ws' := [O_Co a_o a_o_prices a_o_lamps a_o_before a_o_after a_o_sorted (x_o_done + (1 : Int32)) x_o_undone, A_I dA a_o_lamps 40 x_o_lamps, A_I dA a_o_after 40 x_o_after, A_I dA a_o_prices 10 u1]) C kf_Co 5 mw_1_188 d_Co_doAgain_54 rfl 0 rfl (by decide) rfl rfl rfl (Nat.le_of_ble_eq_true rfl) rfl ?_
        refine g_aload_n (pc' := 58) C 0 d_Co_doAgain_57 rfl rfl ?_
        refine g_dup (pc' := 59) C d_Co_doAgain_58 rfl rfl ?_
        refine g_get (pc' := 62) C kf_Co 6 mw_1_190 d_Co_doAgain_59 rfl 0 rfl (by decide) rfl ?_
        refine g_iconst (pc' := 63) (v := 1) C d_Co_doAgain_62 rfl rfl ?_
        refine g_isub (pc' := 64) C d_Co_doAgain_63 rfl ?_
        refine g_put (pc' := 67) (ws' := [O_Co a_o a_o_prices a_o_lamps a_o_before a_o_after a_o_sorted (x_o_done + (1 : Int32)) (x_o_undone - (1 : Int32)), A_I dA a_o_lamps 40 x_o_lamps, A_I dA a_o_after 40 x_o_after, A_I dA a_o_prices 10 u1]) C kf_Co 6 mw_1_190 d_Co_doAgain_64 rfl 0 rfl (by decide) rfl rfl rfl (Nat.le_of_ble_eq_true rfl) rfl ?_
        refine g_iconst (pc' := 68) (v := 1) C d_Co_doAgain_67 rfl rfl ?_
        replace hf := g_o2 hf; obtain ⟨h1, hf⟩ := hf; subst h1
        replace hf := g_o2 hf; obtain ⟨h1, hf⟩ := hf; subst h1
        replace hf := g_o2 hf; obtain ⟨h1, hf⟩ := hf; subst h1
        replace hf := Option.some.inj hf; subst hf
        exact g_zret C d_Co_doAgain_68 () rfl
      · replace hf := g_in h hf
        refine g_iconst (pc' := 24) (v := 0) C d_Co_doAgain_23 rfl rfl ?_
        replace hf := g_o2 hf; obtain ⟨h1, hf⟩ := hf; subst h1
        replace hf := g_o2 hf; obtain ⟨h1, hf⟩ := hf; subst h1
        replace hf := g_o2 hf; obtain ⟨h1, hf⟩ := hf; subst h1
        replace hf := Option.some.inj hf; subst hf
        exact g_zret C d_Co_doAgain_24 () rfl
def y_Co_leastFor : MethodName := ⟨"OneLamp$Costs", "leastFor", "(I)I"⟩
theorem yy_Co_leastFor : YV y_Co_leastFor prog_3_method_8_code 4 (some .int) 1 := ⟨mw_2_218, mw_1_8, mw_2_216, mw_2_217, by decide +kernel, by decide +kernel, by decide +kernel⟩
theorem d_Co_leastFor_0 : decode prog_3_method_8_code 0 = .ok (.iload_n 1, 1) := by decide +kernel
theorem d_Co_leastFor_1 : decode prog_3_method_8_code 1 = .ok (.iconst 1, 1) := by decide +kernel
theorem d_Co_leastFor_2 : decode prog_3_method_8_code 2 = .ok (.if_icmp .lt 9, 3) := by decide +kernel
theorem d_Co_leastFor_5 : decode prog_3_method_8_code 5 = .ok (.iload_n 1, 1) := by decide +kernel
theorem d_Co_leastFor_6 : decode prog_3_method_8_code 6 = .ok (.bipush 10, 2) := by decide +kernel
theorem d_Co_leastFor_8 : decode prog_3_method_8_code 8 = .ok (.if_icmp .le 5, 3) := by decide +kernel
theorem d_Co_leastFor_11 : decode prog_3_method_8_code 11 = .ok (.iconst 0, 1) := by decide +kernel
theorem d_Co_leastFor_12 : decode prog_3_method_8_code 12 = .ok (.ireturn, 1) := by decide +kernel
theorem d_Co_leastFor_13 : decode prog_3_method_8_code 13 = .ok (.iconst 0, 1) := by decide +kernel
theorem d_Co_leastFor_14 : decode prog_3_method_8_code 14 = .ok (.istore_n 2, 1) := by decide +kernel
theorem d_Co_leastFor_15 : decode prog_3_method_8_code 15 = .ok (.iload_n 2, 1) := by decide +kernel
theorem d_Co_leastFor_16 : decode prog_3_method_8_code 16 = .ok (.iload_n 1, 1) := by decide +kernel
theorem d_Co_leastFor_17 : decode prog_3_method_8_code 17 = .ok (.if_icmp .ge 64, 3) := by decide +kernel
theorem d_Co_leastFor_20 : decode prog_3_method_8_code 20 = .ok (.iload_n 2, 1) := by decide +kernel
theorem d_Co_leastFor_21 : decode prog_3_method_8_code 21 = .ok (.istore_n 3, 1) := by decide +kernel
theorem d_Co_leastFor_22 : decode prog_3_method_8_code 22 = .ok (.iload_n 3, 1) := by decide +kernel
theorem d_Co_leastFor_23 : decode prog_3_method_8_code 23 = .ok (.ifCond .le 40, 3) := by decide +kernel
theorem d_Co_leastFor_26 : decode prog_3_method_8_code 26 = .ok (.aload_n 0, 1) := by decide +kernel
theorem d_Co_leastFor_27 : decode prog_3_method_8_code 27 = .ok (.getfield 30, 3) := by decide +kernel
theorem d_Co_leastFor_30 : decode prog_3_method_8_code 30 = .ok (.iload_n 3, 1) := by decide +kernel
theorem d_Co_leastFor_31 : decode prog_3_method_8_code 31 = .ok (.iconst 1, 1) := by decide +kernel
theorem d_Co_leastFor_32 : decode prog_3_method_8_code 32 = .ok (.isub, 1) := by decide +kernel
theorem d_Co_leastFor_33 : decode prog_3_method_8_code 33 = .ok (.iaload, 1) := by decide +kernel
theorem d_Co_leastFor_34 : decode prog_3_method_8_code 34 = .ok (.aload_n 0, 1) := by decide +kernel
theorem d_Co_leastFor_35 : decode prog_3_method_8_code 35 = .ok (.getfield 9, 3) := by decide +kernel
theorem d_Co_leastFor_38 : decode prog_3_method_8_code 38 = .ok (.iload_n 2, 1) := by decide +kernel
theorem d_Co_leastFor_39 : decode prog_3_method_8_code 39 = .ok (.iaload, 1) := by decide +kernel
theorem d_Co_leastFor_40 : decode prog_3_method_8_code 40 = .ok (.if_icmp .le 23, 3) := by decide +kernel
theorem d_Co_leastFor_43 : decode prog_3_method_8_code 43 = .ok (.aload_n 0, 1) := by decide +kernel
theorem d_Co_leastFor_44 : decode prog_3_method_8_code 44 = .ok (.getfield 30, 3) := by decide +kernel
theorem d_Co_leastFor_47 : decode prog_3_method_8_code 47 = .ok (.iload_n 3, 1) := by decide +kernel
theorem d_Co_leastFor_48 : decode prog_3_method_8_code 48 = .ok (.aload_n 0, 1) := by decide +kernel
theorem d_Co_leastFor_49 : decode prog_3_method_8_code 49 = .ok (.getfield 30, 3) := by decide +kernel
theorem d_Co_leastFor_52 : decode prog_3_method_8_code 52 = .ok (.iload_n 3, 1) := by decide +kernel
theorem d_Co_leastFor_53 : decode prog_3_method_8_code 53 = .ok (.iconst 1, 1) := by decide +kernel
theorem d_Co_leastFor_54 : decode prog_3_method_8_code 54 = .ok (.isub, 1) := by decide +kernel
theorem d_Co_leastFor_55 : decode prog_3_method_8_code 55 = .ok (.iaload, 1) := by decide +kernel
theorem d_Co_leastFor_56 : decode prog_3_method_8_code 56 = .ok (.iastore, 1) := by decide +kernel
theorem d_Co_leastFor_57 : decode prog_3_method_8_code 57 = .ok (.iinc 3 (-1), 3) := by decide +kernel
theorem d_Co_leastFor_60 : decode prog_3_method_8_code 60 = .ok (.goto (-38), 3) := by decide +kernel
theorem d_Co_leastFor_63 : decode prog_3_method_8_code 63 = .ok (.aload_n 0, 1) := by decide +kernel
theorem d_Co_leastFor_64 : decode prog_3_method_8_code 64 = .ok (.getfield 30, 3) := by decide +kernel
theorem d_Co_leastFor_67 : decode prog_3_method_8_code 67 = .ok (.iload_n 3, 1) := by decide +kernel
theorem d_Co_leastFor_68 : decode prog_3_method_8_code 68 = .ok (.aload_n 0, 1) := by decide +kernel
theorem d_Co_leastFor_69 : decode prog_3_method_8_code 69 = .ok (.getfield 9, 3) := by decide +kernel
theorem d_Co_leastFor_72 : decode prog_3_method_8_code 72 = .ok (.iload_n 2, 1) := by decide +kernel
theorem d_Co_leastFor_73 : decode prog_3_method_8_code 73 = .ok (.iaload, 1) := by decide +kernel
theorem d_Co_leastFor_74 : decode prog_3_method_8_code 74 = .ok (.iastore, 1) := by decide +kernel
theorem d_Co_leastFor_75 : decode prog_3_method_8_code 75 = .ok (.iinc 2 1, 3) := by decide +kernel
theorem d_Co_leastFor_78 : decode prog_3_method_8_code 78 = .ok (.goto (-63), 3) := by decide +kernel
theorem d_Co_leastFor_81 : decode prog_3_method_8_code 81 = .ok (.iconst 0, 1) := by decide +kernel
theorem d_Co_leastFor_82 : decode prog_3_method_8_code 82 = .ok (.istore_n 2, 1) := by decide +kernel
theorem d_Co_leastFor_83 : decode prog_3_method_8_code 83 = .ok (.iconst 0, 1) := by decide +kernel
theorem d_Co_leastFor_84 : decode prog_3_method_8_code 84 = .ok (.istore_n 3, 1) := by decide +kernel
theorem d_Co_leastFor_85 : decode prog_3_method_8_code 85 = .ok (.iload_n 3, 1) := by decide +kernel
theorem d_Co_leastFor_86 : decode prog_3_method_8_code 86 = .ok (.iload_n 1, 1) := by decide +kernel
theorem d_Co_leastFor_87 : decode prog_3_method_8_code 87 = .ok (.if_icmp .ge 24, 3) := by decide +kernel
theorem d_Co_leastFor_90 : decode prog_3_method_8_code 90 = .ok (.iload_n 2, 1) := by decide +kernel
theorem d_Co_leastFor_91 : decode prog_3_method_8_code 91 = .ok (.aload_n 0, 1) := by decide +kernel
theorem d_Co_leastFor_92 : decode prog_3_method_8_code 92 = .ok (.getfield 30, 3) := by decide +kernel
theorem d_Co_leastFor_95 : decode prog_3_method_8_code 95 = .ok (.iload_n 3, 1) := by decide +kernel
theorem d_Co_leastFor_96 : decode prog_3_method_8_code 96 = .ok (.iaload, 1) := by decide +kernel
theorem d_Co_leastFor_97 : decode prog_3_method_8_code 97 = .ok (.iload_n 1, 1) := by decide +kernel
theorem d_Co_leastFor_98 : decode prog_3_method_8_code 98 = .ok (.iconst 1, 1) := by decide +kernel
theorem d_Co_leastFor_99 : decode prog_3_method_8_code 99 = .ok (.isub, 1) := by decide +kernel
theorem d_Co_leastFor_100 : decode prog_3_method_8_code 100 = .ok (.iload_n 3, 1) := by decide +kernel
theorem d_Co_leastFor_101 : decode prog_3_method_8_code 101 = .ok (.isub, 1) := by decide +kernel
theorem d_Co_leastFor_102 : decode prog_3_method_8_code 102 = .ok (.ishl, 1) := by decide +kernel
theorem d_Co_leastFor_103 : decode prog_3_method_8_code 103 = .ok (.iadd, 1) := by decide +kernel
theorem d_Co_leastFor_104 : decode prog_3_method_8_code 104 = .ok (.istore_n 2, 1) := by decide +kernel
theorem d_Co_leastFor_105 : decode prog_3_method_8_code 105 = .ok (.iinc 3 1, 3) := by decide +kernel
theorem d_Co_leastFor_108 : decode prog_3_method_8_code 108 = .ok (.goto (-23), 3) := by decide +kernel
theorem d_Co_leastFor_111 : decode prog_3_method_8_code 111 = .ok (.iload_n 2, 1) := by decide +kernel
theorem d_Co_leastFor_112 : decode prog_3_method_8_code 112 = .ok (.ireturn, 1) := by decide +kernel
def f_Co_leastFor_L63  (k15 : Int32 → Int32 → (Nat → Int32) → (Nat → Int32) → Option (Int32 × (Nat → Int32))) (v1 : Int32) (v2 : Int32) (v3 : Int32) (x_o_sorted : Nat → Int32) (x_o_prices : Nat → Int32) : Option (Int32 × (Nat → Int32)) :=
  if v2 < 0 ∨ 10 ≤ Int32.toNatClampNeg v2 then none else
  if v3 < 0 ∨ 10 ≤ Int32.toNatClampNeg v3 then none else
  k15 v1 (v2 + 1) (upd x_o_sorted (Int32.toNatClampNeg v3) (x_o_prices (Int32.toNatClampNeg v2))) x_o_prices
set_option maxRecDepth 20000 in
theorem w_Co_leastFor_L63 {p : Program} {l : Launch} {e : Env} {s : State} {m : MethodId} {args : Array Value} {below : List Frame} {meth : Method} {c : Code} {D : va_G} {dA : Nat → ClassId} {A : Nat → Prop} (C : GC p s m args meth c prog_3_method_8_code 4 "OneLamp$Costs" (some .int) D dA A) {a_o a_o_prices a_o_lamps a_o_before a_o_after a_o_sorted : Nat} {x_o_done : Int32} {x_o_undone : Int32} {r0 : Int32} {o_x_o_sorted : Nat → Int32}   (k15 : Int32 → Int32 → (Nat → Int32) → (Nat → Int32) → Option (Int32 × (Nat → Int32))) (hk15 : ∀ (v1 : Int32) (v2 : Int32) (x_o_sorted : Nat → Int32) (x_o_prices : Nat → Int32), k15 v1 v2 x_o_sorted x_o_prices = some (r0, o_x_o_sorted) → GG p l e { frames := 0, cells := 0, slots := 0, locals := 0 } s m args below meth c 4 D A 0 0 (MQ below (cQ D A (some (.int r0)) (fun _ : Unit => [O_Co a_o a_o_prices a_o_lamps a_o_before a_o_after a_o_sorted x_o_done x_o_undone, A_I dA a_o_sorted 10 o_x_o_sorted, A_I dA a_o_prices 10 x_o_prices])) args s 0 0 A) 15 [(0, .ref a_o), (1, .int v1), (2, .int v2)] [] [O_Co a_o a_o_prices a_o_lamps a_o_before a_o_after a_o_sorted x_o_done x_o_undone, A_I dA a_o_sorted 10 x_o_sorted, A_I dA a_o_prices 10 x_o_prices]) (v1 : Int32) (v2 : Int32) (v3 : Int32) (x_o_sorted : Nat → Int32) (x_o_prices : Nat → Int32) (hf : f_Co_leastFor_L63  k15 v1 v2 v3 x_o_sorted x_o_prices = some (r0, o_x_o_sorted)) : GG p l e { frames := 0, cells := 0, slots := 0, locals := 0 } s m args below meth c 4 D A 0 0 (MQ below (cQ D A (some (.int r0)) (fun _ : Unit => [O_Co a_o a_o_prices a_o_lamps a_o_before a_o_after a_o_sorted x_o_done x_o_undone, A_I dA a_o_sorted 10 o_x_o_sorted, A_I dA a_o_prices 10 x_o_prices])) args s 0 0 A) 63 [(0, .ref a_o), (1, .int v1), (2, .int v2), (3, .int v3)] [] [O_Co a_o a_o_prices a_o_lamps a_o_before a_o_after a_o_sorted x_o_done x_o_undone, A_I dA a_o_sorted 10 x_o_sorted, A_I dA a_o_prices 10 x_o_prices] := by
  unfold f_Co_leastFor_L63 at hf
  refine g_aload_n (pc' := 64) C 0 d_Co_leastFor_63 rfl rfl ?_
  refine g_get (pc' := 67) C kf_Co 4 mw_1_187 d_Co_leastFor_64 rfl 0 rfl (by decide) rfl ?_
  refine g_iload_n (pc' := 68) C 3 d_Co_leastFor_67 rfl rfl ?_
  refine g_aload_n (pc' := 69) C 0 d_Co_leastFor_68 rfl rfl ?_
  refine g_get (pc' := 72) C kf_Co 0 mw_1_183 d_Co_leastFor_69 rfl 0 rfl (by decide) rfl ?_
  refine g_iload_n (pc' := 73) C 2 d_Co_leastFor_72 rfl rfl ?_
  have hb := g_ck hf
  replace hf := g_in hb hf
  refine g_iald (pc' := 74) C d_Co_leastFor_73 rfl 2 rfl hb ?_
  have hb := g_ck hf
  replace hf := g_in hb hf
  refine g_iast (pc' := 75) (ws' := [O_Co a_o a_o_prices a_o_lamps a_o_before a_o_after a_o_sorted x_o_done x_o_undone, A_I dA a_o_sorted 10 (upd x_o_sorted (Int32.toNatClampNeg v3) (x_o_prices (Int32.toNatClampNeg v2))), A_I dA a_o_prices 10 x_o_prices]) C d_Co_leastFor_74 rfl 1 rfl hb rfl ?_
  refine g_iinc (pc' := 78) (j := 2) (v := (v2 + 1)) (lv' := [(2, .int (v2 + 1)), (0, .ref a_o), (1, .int v1), (3, .int v3)]) C d_Co_leastFor_75 rfl rfl rfl (by decide) rfl ?_
  refine g_goto (tgt := 15) C d_Co_leastFor_78 rfl ?_
  refine g_lv (lv' := [(0, .ref a_o), (1, .int v1), (2, .int (v2 + 1))]) [1, 2, 0] rfl ?_
  exact hk15 v1 (v2 + 1) (upd x_o_sorted (Int32.toNatClampNeg v3) (x_o_prices (Int32.toNatClampNeg v2))) x_o_prices hf
def f_Co_leastFor_L22  (k15 : Int32 → Int32 → (Nat → Int32) → (Nat → Int32) → Option (Int32 × (Nat → Int32))) : Nat → Int32 → Int32 → Int32 → (Nat → Int32) → (Nat → Int32) → Option (Int32 × (Nat → Int32))
  | 0, _, _, _, _, _ => none
  | n + 1, v1, v2, v3, x_o_sorted, x_o_prices =>
    if v3 ≤ 0 then
      (f_Co_leastFor_L63 k15 v1 v2 v3 x_o_sorted x_o_prices)
    else
      (if (v3 - (1 : Int32)) < 0 ∨ 10 ≤ Int32.toNatClampNeg (v3 - (1 : Int32)) then none else
      if v2 < 0 ∨ 10 ≤ Int32.toNatClampNeg v2 then none else
      if (x_o_sorted (Int32.toNatClampNeg (v3 - (1 : Int32)))) ≤ (x_o_prices (Int32.toNatClampNeg v2)) then
        (f_Co_leastFor_L63 k15 v1 v2 v3 x_o_sorted x_o_prices)
      else
        (if (v3 - (1 : Int32)) < 0 ∨ 10 ≤ Int32.toNatClampNeg (v3 - (1 : Int32)) then none else
        if v3 < 0 ∨ 10 ≤ Int32.toNatClampNeg v3 then none else
        f_Co_leastFor_L22 k15 n v1 v2 (v3 + (-1)) (upd x_o_sorted (Int32.toNatClampNeg v3) (x_o_sorted (Int32.toNatClampNeg (v3 - (1 : Int32))))) x_o_prices))
set_option maxRecDepth 20000 in
theorem w_Co_leastFor_L22 {p : Program} {l : Launch} {e : Env} {s : State} {m : MethodId} {args : Array Value} {below : List Frame} {meth : Method} {c : Code} {D : va_G} {dA : Nat → ClassId} {A : Nat → Prop} (C : GC p s m args meth c prog_3_method_8_code 4 "OneLamp$Costs" (some .int) D dA A) {a_o a_o_prices a_o_lamps a_o_before a_o_after a_o_sorted : Nat} {x_o_done : Int32} {x_o_undone : Int32} {r0 : Int32} {o_x_o_sorted : Nat → Int32}   (k15 : Int32 → Int32 → (Nat → Int32) → (Nat → Int32) → Option (Int32 × (Nat → Int32))) (hk15 : ∀ (v1 : Int32) (v2 : Int32) (x_o_sorted : Nat → Int32) (x_o_prices : Nat → Int32), k15 v1 v2 x_o_sorted x_o_prices = some (r0, o_x_o_sorted) → GG p l e { frames := 0, cells := 0, slots := 0, locals := 0 } s m args below meth c 4 D A 0 0 (MQ below (cQ D A (some (.int r0)) (fun _ : Unit => [O_Co a_o a_o_prices a_o_lamps a_o_before a_o_after a_o_sorted x_o_done x_o_undone, A_I dA a_o_sorted 10 o_x_o_sorted, A_I dA a_o_prices 10 x_o_prices])) args s 0 0 A) 15 [(0, .ref a_o), (1, .int v1), (2, .int v2)] [] [O_Co a_o a_o_prices a_o_lamps a_o_before a_o_after a_o_sorted x_o_done x_o_undone, A_I dA a_o_sorted 10 x_o_sorted, A_I dA a_o_prices 10 x_o_prices]) : ∀ (n : Nat) (v1 : Int32) (v2 : Int32) (v3 : Int32) (x_o_sorted : Nat → Int32) (x_o_prices : Nat → Int32), f_Co_leastFor_L22  k15 n v1 v2 v3 x_o_sorted x_o_prices = some (r0, o_x_o_sorted) → GG p l e { frames := 0, cells := 0, slots := 0, locals := 0 } s m args below meth c 4 D A 0 0 (MQ below (cQ D A (some (.int r0)) (fun _ : Unit => [O_Co a_o a_o_prices a_o_lamps a_o_before a_o_after a_o_sorted x_o_done x_o_undone, A_I dA a_o_sorted 10 o_x_o_sorted, A_I dA a_o_prices 10 x_o_prices])) args s 0 0 A) 22 [(0, .ref a_o), (1, .int v1), (2, .int v2), (3, .int v3)] [] [O_Co a_o a_o_prices a_o_lamps a_o_before a_o_after a_o_sorted x_o_done x_o_undone, A_I dA a_o_sorted 10 x_o_sorted, A_I dA a_o_prices 10 x_o_prices] := by
  intro n
  induction n with
  | zero =>
    intro v1 v2 v3 x_o_sorted x_o_prices hf
    cases hf
  | succ n ih =>
    intro v1 v2 v3 x_o_sorted x_o_prices hf
    unfold f_Co_leastFor_L22 at hf
    refine g_iload_n (pc' := 23) C 3 d_Co_leastFor_22 rfl rfl ?_
    refine g_if_le (pc' := 26) (tgt := 63) C d_Co_leastFor_23 rfl rfl (fun h => ?_) (fun h => ?_)
    · replace hf := g_ip h hf
      exact w_Co_leastFor_L63 (a_o := a_o) (a_o_prices := a_o_prices) (a_o_lamps := a_o_lamps) (a_o_before := a_o_before) (a_o_after := a_o_after) (a_o_sorted := a_o_sorted) C  k15 hk15 v1 v2 v3 x_o_sorted x_o_prices hf
    · replace hf := g_in h hf
      refine g_aload_n (pc' := 27) C 0 d_Co_leastFor_26 rfl rfl ?_
      refine g_get (pc' := 30) C kf_Co 4 mw_1_187 d_Co_leastFor_27 rfl 0 rfl (by decide) rfl ?_
      refine g_iload_n (pc' := 31) C 3 d_Co_leastFor_30 rfl rfl ?_
      refine g_iconst (pc' := 32) (v := 1) C d_Co_leastFor_31 rfl rfl ?_
      refine g_isub (pc' := 33) C d_Co_leastFor_32 rfl ?_
      have hb := g_ck hf
      replace hf := g_in hb hf
      refine g_iald (pc' := 34) C d_Co_leastFor_33 rfl 1 rfl hb ?_
      refine g_aload_n (pc' := 35) C 0 d_Co_leastFor_34 rfl rfl ?_
      refine g_get (pc' := 38) C kf_Co 0 mw_1_183 d_Co_leastFor_35 rfl 0 rfl (by decide) rfl ?_
      refine g_iload_n (pc' := 39) C 2 d_Co_leastFor_38 rfl rfl ?_
      have hb := g_ck hf
      replace hf := g_in hb hf
      refine g_iald (pc' := 40) C d_Co_leastFor_39 rfl 2 rfl hb ?_
      refine g_icmp_le (pc' := 43) (tgt := 63) C d_Co_leastFor_40 rfl rfl (fun h => ?_) (fun h => ?_)
      · replace hf := g_ip h hf
        exact w_Co_leastFor_L63 (a_o := a_o) (a_o_prices := a_o_prices) (a_o_lamps := a_o_lamps) (a_o_before := a_o_before) (a_o_after := a_o_after) (a_o_sorted := a_o_sorted) C  k15 hk15 v1 v2 v3 x_o_sorted x_o_prices hf
      · replace hf := g_in h hf
        refine g_aload_n (pc' := 44) C 0 d_Co_leastFor_43 rfl rfl ?_
        refine g_get (pc' := 47) C kf_Co 4 mw_1_187 d_Co_leastFor_44 rfl 0 rfl (by decide) rfl ?_
        refine g_iload_n (pc' := 48) C 3 d_Co_leastFor_47 rfl rfl ?_
        refine g_aload_n (pc' := 49) C 0 d_Co_leastFor_48 rfl rfl ?_
        refine g_get (pc' := 52) C kf_Co 4 mw_1_187 d_Co_leastFor_49 rfl 0 rfl (by decide) rfl ?_
        refine g_iload_n (pc' := 53) C 3 d_Co_leastFor_52 rfl rfl ?_
        refine g_iconst (pc' := 54) (v := 1) C d_Co_leastFor_53 rfl rfl ?_
        refine g_isub (pc' := 55) C d_Co_leastFor_54 rfl ?_
        have hb := g_ck hf
        replace hf := g_in hb hf
        refine g_iald (pc' := 56) C d_Co_leastFor_55 rfl 1 rfl hb ?_
        have hb := g_ck hf
        replace hf := g_in hb hf
        refine g_iast (pc' := 57) (ws' := [O_Co a_o a_o_prices a_o_lamps a_o_before a_o_after a_o_sorted x_o_done x_o_undone, A_I dA a_o_sorted 10 (upd x_o_sorted (Int32.toNatClampNeg v3) (x_o_sorted (Int32.toNatClampNeg (v3 - (1 : Int32))))), A_I dA a_o_prices 10 x_o_prices]) C d_Co_leastFor_56 rfl 1 rfl hb rfl ?_
        refine g_iinc (pc' := 60) (j := 3) (v := (v3 + (-1))) (lv' := [(3, .int (v3 + (-1))), (0, .ref a_o), (1, .int v1), (2, .int v2)]) C d_Co_leastFor_57 rfl rfl rfl (by decide) rfl ?_
        refine g_goto (tgt := 22) C d_Co_leastFor_60 rfl ?_
        refine g_lv (lv' := [(0, .ref a_o), (1, .int v1), (2, .int v2), (3, .int (v3 + (-1)))]) [1, 2, 3, 0] rfl ?_
        exact ih v1 v2 (v3 + (-1)) (upd x_o_sorted (Int32.toNatClampNeg v3) (x_o_sorted (Int32.toNatClampNeg (v3 - (1 : Int32))))) x_o_prices hf
def f_Co_leastFor_L85   : Nat → Int32 → Int32 → Int32 → (Nat → Int32) → Option (Int32 × (Nat → Int32))
  | 0, _, _, _, _ => none
  | n + 1, v1, v2, v3, x_o_sorted =>
    if v1 ≤ v3 then
      (some (v2, x_o_sorted))
    else
      (if v3 < 0 ∨ 10 ≤ Int32.toNatClampNeg v3 then none else
      f_Co_leastFor_L85  n v1 (v2 + ((x_o_sorted (Int32.toNatClampNeg v3)) <<< (((v1 - (1 : Int32)) - v3) &&& 31))) (v3 + 1) x_o_sorted)
set_option maxRecDepth 20000 in
theorem w_Co_leastFor_L85 {p : Program} {l : Launch} {e : Env} {s : State} {m : MethodId} {args : Array Value} {below : List Frame} {meth : Method} {c : Code} {D : va_G} {dA : Nat → ClassId} {A : Nat → Prop} (C : GC p s m args meth c prog_3_method_8_code 4 "OneLamp$Costs" (some .int) D dA A) {a_o a_o_prices a_o_lamps a_o_before a_o_after a_o_sorted : Nat} {x_o_done : Int32} {x_o_undone : Int32} {x_o_prices : Nat → Int32} {r0 : Int32} {o_x_o_sorted : Nat → Int32}    : ∀ (n : Nat) (v1 : Int32) (v2 : Int32) (v3 : Int32) (x_o_sorted : Nat → Int32), f_Co_leastFor_L85   n v1 v2 v3 x_o_sorted = some (r0, o_x_o_sorted) → GG p l e { frames := 0, cells := 0, slots := 0, locals := 0 } s m args below meth c 4 D A 0 0 (MQ below (cQ D A (some (.int r0)) (fun _ : Unit => [O_Co a_o a_o_prices a_o_lamps a_o_before a_o_after a_o_sorted x_o_done x_o_undone, A_I dA a_o_sorted 10 o_x_o_sorted, A_I dA a_o_prices 10 x_o_prices])) args s 0 0 A) 85 [(0, .ref a_o), (1, .int v1), (2, .int v2), (3, .int v3)] [] [O_Co a_o a_o_prices a_o_lamps a_o_before a_o_after a_o_sorted x_o_done x_o_undone, A_I dA a_o_sorted 10 x_o_sorted, A_I dA a_o_prices 10 x_o_prices] := by
  intro n
  induction n with
  | zero =>
    intro v1 v2 v3 x_o_sorted hf
    cases hf
  | succ n ih =>
    intro v1 v2 v3 x_o_sorted hf
    unfold f_Co_leastFor_L85 at hf
    refine g_iload_n (pc' := 86) C 3 d_Co_leastFor_85 rfl rfl ?_
    refine g_iload_n (pc' := 87) C 1 d_Co_leastFor_86 rfl rfl ?_
    refine g_icmp_ge (pc' := 90) (tgt := 111) C d_Co_leastFor_87 rfl rfl (fun h => ?_) (fun h => ?_)
    · replace hf := g_ip h hf
      refine g_iload_n (pc' := 112) C 2 d_Co_leastFor_111 rfl rfl ?_
      replace hf := g_o2 hf; obtain ⟨h1, hf⟩ := hf; subst h1
      replace hf := Option.some.inj hf; subst hf
      exact g_iret C d_Co_leastFor_112 () rfl
    · replace hf := g_in h hf
      refine g_iload_n (pc' := 91) C 2 d_Co_leastFor_90 rfl rfl ?_
      refine g_aload_n (pc' := 92) C 0 d_Co_leastFor_91 rfl rfl ?_
      refine g_get (pc' := 95) C kf_Co 4 mw_1_187 d_Co_leastFor_92 rfl 0 rfl (by decide) rfl ?_
      refine g_iload_n (pc' := 96) C 3 d_Co_leastFor_95 rfl rfl ?_
      have hb := g_ck hf
      replace hf := g_in hb hf
      refine g_iald (pc' := 97) C d_Co_leastFor_96 rfl 1 rfl hb ?_
      refine g_iload_n (pc' := 98) C 1 d_Co_leastFor_97 rfl rfl ?_
      refine g_iconst (pc' := 99) (v := 1) C d_Co_leastFor_98 rfl rfl ?_
      refine g_isub (pc' := 100) C d_Co_leastFor_99 rfl ?_
      refine g_iload_n (pc' := 101) C 3 d_Co_leastFor_100 rfl rfl ?_
      refine g_isub (pc' := 102) C d_Co_leastFor_101 rfl ?_
      refine g_ishl (pc' := 103) C d_Co_leastFor_102 rfl ?_
      refine g_iadd (pc' := 104) C d_Co_leastFor_103 rfl ?_
      refine g_istore_n (pc' := 105) (lv' := [(2, .int (v2 + ((x_o_sorted (Int32.toNatClampNeg v3)) <<< (((v1 - (1 : Int32)) - v3) &&& 31)))), (0, .ref a_o), (1, .int v1), (3, .int v3)]) C d_Co_leastFor_104 rfl (by decide) rfl ?_
      refine g_iinc (pc' := 108) (j := 3) (v := (v3 + 1)) (lv' := [(3, .int (v3 + 1)), (2, .int (v2 + ((x_o_sorted (Int32.toNatClampNeg v3)) <<< (((v1 - (1 : Int32)) - v3) &&& 31)))), (0, .ref a_o), (1, .int v1)]) C d_Co_leastFor_105 rfl rfl rfl (by decide) rfl ?_
      refine g_goto (tgt := 85) C d_Co_leastFor_108 rfl ?_
      refine g_lv (lv' := [(0, .ref a_o), (1, .int v1), (2, .int (v2 + ((x_o_sorted (Int32.toNatClampNeg v3)) <<< (((v1 - (1 : Int32)) - v3) &&& 31)))), (3, .int (v3 + 1))]) [2, 3, 1, 0] rfl ?_
      exact ih v1 (v2 + ((x_o_sorted (Int32.toNatClampNeg v3)) <<< (((v1 - (1 : Int32)) - v3) &&& 31))) (v3 + 1) x_o_sorted hf
def f_Co_leastFor_L15   : Nat → Int32 → Int32 → (Nat → Int32) → (Nat → Int32) → Option (Int32 × (Nat → Int32))
  | 0, _, _, _, _ => none
  | n + 1, v1, v2, x_o_sorted, x_o_prices =>
    if v1 ≤ v2 then
      (f_Co_leastFor_L85  3000 v1 (0 : Int32) (0 : Int32) x_o_sorted)
    else
      (f_Co_leastFor_L22 (f_Co_leastFor_L15  n) 3000 v1 v2 v2 x_o_sorted x_o_prices)
set_option maxRecDepth 20000 in
theorem w_Co_leastFor_L15 {p : Program} {l : Launch} {e : Env} {s : State} {m : MethodId} {args : Array Value} {below : List Frame} {meth : Method} {c : Code} {D : va_G} {dA : Nat → ClassId} {A : Nat → Prop} (C : GC p s m args meth c prog_3_method_8_code 4 "OneLamp$Costs" (some .int) D dA A) {a_o a_o_prices a_o_lamps a_o_before a_o_after a_o_sorted : Nat} {x_o_done : Int32} {x_o_undone : Int32} {r0 : Int32} {o_x_o_sorted : Nat → Int32}    : ∀ (n : Nat) (v1 : Int32) (v2 : Int32) (x_o_sorted : Nat → Int32) (x_o_prices : Nat → Int32), f_Co_leastFor_L15   n v1 v2 x_o_sorted x_o_prices = some (r0, o_x_o_sorted) → GG p l e { frames := 0, cells := 0, slots := 0, locals := 0 } s m args below meth c 4 D A 0 0 (MQ below (cQ D A (some (.int r0)) (fun _ : Unit => [O_Co a_o a_o_prices a_o_lamps a_o_before a_o_after a_o_sorted x_o_done x_o_undone, A_I dA a_o_sorted 10 o_x_o_sorted, A_I dA a_o_prices 10 x_o_prices])) args s 0 0 A) 15 [(0, .ref a_o), (1, .int v1), (2, .int v2)] [] [O_Co a_o a_o_prices a_o_lamps a_o_before a_o_after a_o_sorted x_o_done x_o_undone, A_I dA a_o_sorted 10 x_o_sorted, A_I dA a_o_prices 10 x_o_prices] := by
  intro n
  induction n with
  | zero =>
    intro v1 v2 x_o_sorted x_o_prices hf
    cases hf
  | succ n ih =>
    intro v1 v2 x_o_sorted x_o_prices hf
    unfold f_Co_leastFor_L15 at hf
    refine g_iload_n (pc' := 16) C 2 d_Co_leastFor_15 rfl rfl ?_
    refine g_iload_n (pc' := 17) C 1 d_Co_leastFor_16 rfl rfl ?_
    refine g_icmp_ge (pc' := 20) (tgt := 81) C d_Co_leastFor_17 rfl rfl (fun h => ?_) (fun h => ?_)
    · replace hf := g_ip h hf
      refine g_iconst (pc' := 82) (v := 0) C d_Co_leastFor_81 rfl rfl ?_
      refine g_istore_n (pc' := 83) (lv' := [(2, .int 0), (0, .ref a_o), (1, .int v1)]) C d_Co_leastFor_82 rfl (by decide) rfl ?_
      refine g_iconst (pc' := 84) (v := 0) C d_Co_leastFor_83 rfl rfl ?_
      refine g_istore_n (pc' := 85) (lv' := [(3, .int 0), (2, .int 0), (0, .ref a_o), (1, .int v1)]) C d_Co_leastFor_84 rfl (by decide) rfl ?_
      refine g_lv (lv' := [(0, .ref a_o), (1, .int v1), (2, .int (0 : Int32)), (3, .int (0 : Int32))]) [2, 3, 1, 0] rfl ?_
      exact w_Co_leastFor_L85 (a_o := a_o) (a_o_prices := a_o_prices) (a_o_lamps := a_o_lamps) (a_o_before := a_o_before) (a_o_after := a_o_after) (a_o_sorted := a_o_sorted) C   3000 v1 (0 : Int32) (0 : Int32) x_o_sorted hf
    · replace hf := g_in h hf
      refine g_iload_n (pc' := 21) C 2 d_Co_leastFor_20 rfl rfl ?_
      refine g_istore_n (pc' := 22) (lv' := [(3, .int v2), (0, .ref a_o), (1, .int v1), (2, .int v2)]) C d_Co_leastFor_21 rfl (by decide) rfl ?_
      refine g_lv (lv' := [(0, .ref a_o), (1, .int v1), (2, .int v2), (3, .int v2)]) [1, 2, 3, 0] rfl ?_
      exact w_Co_leastFor_L22 (a_o := a_o) (a_o_prices := a_o_prices) (a_o_lamps := a_o_lamps) (a_o_before := a_o_before) (a_o_after := a_o_after) (a_o_sorted := a_o_sorted) C  (f_Co_leastFor_L15  n) ih 3000 v1 v2 v2 x_o_sorted x_o_prices hf
def f_Co_leastFor  (p1 : Int32) (x_o_sorted : Nat → Int32) (x_o_prices : Nat → Int32) : Option (Int32 × (Nat → Int32)) :=
  if p1 < (1 : Int32) then
    (some ((0 : Int32), x_o_sorted))
  else
    (if p1 ≤ (10 : Int32) then
      (f_Co_leastFor_L15  3000 p1 (0 : Int32) x_o_sorted x_o_prices)
    else
      (some ((0 : Int32), x_o_sorted)))
set_option maxRecDepth 20000 in
theorem c_Co_leastFor {l : Launch} {D : va_G} {dA : Nat → ClassId} {a_o a_o_prices a_o_lamps a_o_before a_o_after a_o_sorted : Nat} {x_o_done : Int32} {x_o_undone : Int32} {p1 : Int32} {x_o_sorted : Nat → Int32} {x_o_prices : Nat → Int32} {r0 : Int32} {o_x_o_sorted : Nat → Int32}   (hf : f_Co_leastFor  p1 x_o_sorted x_o_prices = some (r0, o_x_o_sorted)) : CT l y_Co_leastFor prog_3_method_8_code 4 (some .int) { frames := 0, cells := 0, slots := 0, locals := 0 } D dA [.ref a_o, .int p1] [O_Co a_o a_o_prices a_o_lamps a_o_before a_o_after a_o_sorted x_o_done x_o_undone, A_I dA a_o_sorted 10 x_o_sorted, A_I dA a_o_prices 10 x_o_prices] (some (.int r0)) (fun _ : Unit => [O_Co a_o a_o_prices a_o_lamps a_o_before a_o_after a_o_sorted x_o_done x_o_undone, A_I dA a_o_sorted 10 o_x_o_sorted, A_I dA a_o_prices 10 x_o_prices]) := by
  refine ct_intro "OneLamp$Costs" rfl (by decide +kernel) (Nat.le_of_ble_eq_true rfl) [(0, .ref a_o), (1, .int p1)] rfl (fun _ C => ?_)
  unfold f_Co_leastFor at hf
  refine g_iload_n (pc' := 1) C 1 d_Co_leastFor_0 rfl rfl ?_
  refine g_iconst (pc' := 2) (v := 1) C d_Co_leastFor_1 rfl rfl ?_
  refine g_icmp_lt (pc' := 5) (tgt := 11) C d_Co_leastFor_2 rfl rfl (fun h => ?_) (fun h => ?_)
  · replace hf := g_ip h hf
    refine g_iconst (pc' := 12) (v := 0) C d_Co_leastFor_11 rfl rfl ?_
    replace hf := g_o2 hf; obtain ⟨h1, hf⟩ := hf; subst h1
    replace hf := Option.some.inj hf; subst hf
    exact g_iret C d_Co_leastFor_12 () rfl
  · replace hf := g_in h hf
    refine g_iload_n (pc' := 6) C 1 d_Co_leastFor_5 rfl rfl ?_
    refine g_bipush (pc' := 8) (v := 10) C d_Co_leastFor_6 rfl rfl ?_
    refine g_icmp_le (pc' := 11) (tgt := 13) C d_Co_leastFor_8 rfl rfl (fun h => ?_) (fun h => ?_)
    · replace hf := g_ip h hf
      refine g_iconst (pc' := 14) (v := 0) C d_Co_leastFor_13 rfl rfl ?_
      refine g_istore_n (pc' := 15) (lv' := [(2, .int 0), (0, .ref a_o), (1, .int p1)]) C d_Co_leastFor_14 rfl (by decide) rfl ?_
      refine g_lv (lv' := [(0, .ref a_o), (1, .int p1), (2, .int (0 : Int32))]) [1, 2, 0] rfl ?_
      exact w_Co_leastFor_L15 (a_o := a_o) (a_o_prices := a_o_prices) (a_o_lamps := a_o_lamps) (a_o_before := a_o_before) (a_o_after := a_o_after) (a_o_sorted := a_o_sorted) C   3000 p1 (0 : Int32) x_o_sorted x_o_prices hf
    · replace hf := g_in h hf
      refine g_iconst (pc' := 12) (v := 0) C d_Co_leastFor_11 rfl rfl ?_
      replace hf := g_o2 hf; obtain ⟨h1, hf⟩ := hf; subst h1
      replace hf := Option.some.inj hf; subst hf
      exact g_iret C d_Co_leastFor_12 () rfl
