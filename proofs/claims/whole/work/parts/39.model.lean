def y_Mo_whyNoPlace : MethodName := ⟨"OneLampModel", "whyNoPlace", "(II)I"⟩
theorem yy_Mo_whyNoPlace : YV y_Mo_whyNoPlace prog_13_method_97_code 3 (some .int) 2 := ⟨mw_6_213, mw_1_12, mw_6_212, tm_s (y := y_Mo_whyNoPlace) (n := 58) (by decide +kernel), by decide +kernel, by decide +kernel, by decide +kernel⟩
theorem d_Mo_whyNoPlace_0 : decode prog_13_method_97_code 0 = .ok (.iload_n 1, 1) := by decide +kernel
theorem d_Mo_whyNoPlace_1 : decode prog_13_method_97_code 1 = .ok (.invokestatic 146, 3) := by decide +kernel
theorem d_Mo_whyNoPlace_4 : decode prog_13_method_97_code 4 = .ok (.ifCond .ne 5, 3) := by decide +kernel
theorem d_Mo_whyNoPlace_7 : decode prog_13_method_97_code 7 = .ok (.iconst (-1), 1) := by decide +kernel
theorem d_Mo_whyNoPlace_8 : decode prog_13_method_97_code 8 = .ok (.ireturn, 1) := by decide +kernel
theorem d_Mo_whyNoPlace_9 : decode prog_13_method_97_code 9 = .ok (.aload_n 0, 1) := by decide +kernel
theorem d_Mo_whyNoPlace_10 : decode prog_13_method_97_code 10 = .ok (.getfield 101, 3) := by decide +kernel
theorem d_Mo_whyNoPlace_13 : decode prog_13_method_97_code 13 = .ok (.iload_n 1, 1) := by decide +kernel
theorem d_Mo_whyNoPlace_14 : decode prog_13_method_97_code 14 = .ok (.iaload, 1) := by decide +kernel
theorem d_Mo_whyNoPlace_15 : decode prog_13_method_97_code 15 = .ok (.iconst (-1), 1) := by decide +kernel
theorem d_Mo_whyNoPlace_16 : decode prog_13_method_97_code 16 = .ok (.if_icmp .ne 6, 3) := by decide +kernel
theorem d_Mo_whyNoPlace_19 : decode prog_13_method_97_code 19 = .ok (.bipush (-11), 2) := by decide +kernel
theorem d_Mo_whyNoPlace_21 : decode prog_13_method_97_code 21 = .ok (.ireturn, 1) := by decide +kernel
theorem d_Mo_whyNoPlace_22 : decode prog_13_method_97_code 22 = .ok (.aload_n 0, 1) := by decide +kernel
theorem d_Mo_whyNoPlace_23 : decode prog_13_method_97_code 23 = .ok (.getfield 101, 3) := by decide +kernel
theorem d_Mo_whyNoPlace_26 : decode prog_13_method_97_code 26 = .ok (.iload_n 1, 1) := by decide +kernel
theorem d_Mo_whyNoPlace_27 : decode prog_13_method_97_code 27 = .ok (.iaload, 1) := by decide +kernel
theorem d_Mo_whyNoPlace_28 : decode prog_13_method_97_code 28 = .ok (.ifCond .lt 6, 3) := by decide +kernel
theorem d_Mo_whyNoPlace_31 : decode prog_13_method_97_code 31 = .ok (.bipush (-12), 2) := by decide +kernel
theorem d_Mo_whyNoPlace_33 : decode prog_13_method_97_code 33 = .ok (.ireturn, 1) := by decide +kernel
theorem d_Mo_whyNoPlace_34 : decode prog_13_method_97_code 34 = .ok (.iload_n 2, 1) := by decide +kernel
theorem d_Mo_whyNoPlace_35 : decode prog_13_method_97_code 35 = .ok (.iconst 0, 1) := by decide +kernel
theorem d_Mo_whyNoPlace_36 : decode prog_13_method_97_code 36 = .ok (.aload_n 0, 1) := by decide +kernel
theorem d_Mo_whyNoPlace_37 : decode prog_13_method_97_code 37 = .ok (.getfield 104, 3) := by decide +kernel
theorem d_Mo_whyNoPlace_40 : decode prog_13_method_97_code 40 = .ok (.iload_n 1, 1) := by decide +kernel
theorem d_Mo_whyNoPlace_41 : decode prog_13_method_97_code 41 = .ok (.iaload, 1) := by decide +kernel
theorem d_Mo_whyNoPlace_42 : decode prog_13_method_97_code 42 = .ok (.iconst 1, 1) := by decide +kernel
theorem d_Mo_whyNoPlace_43 : decode prog_13_method_97_code 43 = .ok (.isub, 1) := by decide +kernel
theorem d_Mo_whyNoPlace_44 : decode prog_13_method_97_code 44 = .ok (.invokestatic 121, 3) := by decide +kernel
theorem d_Mo_whyNoPlace_47 : decode prog_13_method_97_code 47 = .ok (.ifCond .eq 7, 3) := by decide +kernel
theorem d_Mo_whyNoPlace_50 : decode prog_13_method_97_code 50 = .ok (.iconst 0, 1) := by decide +kernel
theorem d_Mo_whyNoPlace_51 : decode prog_13_method_97_code 51 = .ok (.goto 5, 3) := by decide +kernel
theorem d_Mo_whyNoPlace_54 : decode prog_13_method_97_code 54 = .ok (.bipush (-13), 2) := by decide +kernel
theorem d_Mo_whyNoPlace_56 : decode prog_13_method_97_code 56 = .ok (.ireturn, 1) := by decide +kernel
def f_Mo_whyNoPlace  (p1 : Int32) (p2 : Int32) (x_o_holds : Nat → Int32) (x_o_size : Nat → Int32) : Option (Int32) :=
  (f_Mo_isShelf  p1).bind fun r1 =>
  if r1 = true then
    (if p1 < 0 ∨ 6 ≤ Int32.toNatClampNeg p1 then none else
    if (x_o_holds (Int32.toNatClampNeg p1)) = (-1 : Int32) then
      (some ((-11 : Int32)))
    else
      (if p1 < 0 ∨ 6 ≤ Int32.toNatClampNeg p1 then none else
      if (x_o_holds (Int32.toNatClampNeg p1)) < 0 then
        (if p1 < 0 ∨ 6 ≤ Int32.toNatClampNeg p1 then none else
        (f_Mo_in  p2 (0 : Int32) ((x_o_size (Int32.toNatClampNeg p1)) - (1 : Int32))).bind fun r3 =>
        if r3 = true then
          (some ((0 : Int32)))
        else
          (some ((-13 : Int32))))
      else
        (some ((-12 : Int32)))))
  else
    (some ((-1 : Int32)))
set_option maxRecDepth 20000 in
theorem c_Mo_whyNoPlace {l : Launch} {D : va_G} {dA : Nat → ClassId} {a_o a_o_had a_o_told a_o_barred a_o_cost a_o_last a_o_often a_o_changeOf a_o_changeAt a_o_before a_o_behind a_o_tape a_o_act a_o_with a_o_lineMany a_o_testEnd a_o_lineEnd a_o_facts a_o_pile a_o_way a_o_bestWay a_o_wasHad a_o_wasLast a_o_keptHad a_o_keptTold a_o_keptLast a_o_keptOften a_o_kind a_o_traced a_o_holds a_o_size a_o_elements a_o_shifted : Nat} {x_o_code : Int32} {x_o_lamps : Int32} {x_o_at : Int32} {x_o_night : Int32} {x_o_spent : Int32} {x_o_rest : Int32} {x_o_shy : Int32} {x_o_hasBegun : Bool} {x_o_doneMany : Int32} {x_o_undoneMany : Int32} {x_o_taped : Int32} {x_o_here : Int32} {x_o_fault : Int32} {x_o_open : Int32} {x_o_laid : Int32} {x_o_hasLaw : Bool} {x_o_bestMany : Int32} {x_o_wasAt : Int32} {x_o_wasNight : Int32} {x_o_hasImage : Bool} {x_o_keptLamps : Int32} {x_o_keptAt : Int32} {x_o_keptNight : Int32} {x_o_keptSpent : Int32} {x_o_bodies : Int32} {x_o_traces : Int32} {p1 : Int32} {p2 : Int32} {x_o_holds : Nat → Int32} {x_o_size : Nat → Int32} {r0 : Int32}   (hf : f_Mo_whyNoPlace  p1 p2 x_o_holds x_o_size = some r0) : CT l y_Mo_whyNoPlace prog_13_method_97_code 3 (some .int) { frames := 2, cells := 0, slots := 0, locals := 42 } D dA [.ref a_o, .int p1, .int p2] [O_Mo a_o x_o_code x_o_lamps x_o_at x_o_night x_o_spent x_o_rest x_o_shy a_o_had a_o_told a_o_barred a_o_cost a_o_last a_o_often x_o_hasBegun x_o_doneMany x_o_undoneMany a_o_changeOf a_o_changeAt a_o_before a_o_behind a_o_tape x_o_taped x_o_here x_o_fault x_o_open x_o_laid a_o_act a_o_with a_o_lineMany a_o_testEnd a_o_lineEnd a_o_facts a_o_pile x_o_hasLaw a_o_way a_o_bestWay x_o_bestMany a_o_wasHad a_o_wasLast x_o_wasAt x_o_wasNight x_o_hasImage x_o_keptLamps x_o_keptAt x_o_keptNight x_o_keptSpent a_o_keptHad a_o_keptTold a_o_keptLast a_o_keptOften x_o_bodies a_o_kind x_o_traces a_o_traced a_o_holds a_o_size a_o_elements a_o_shifted, A_I dA a_o_holds 6 x_o_holds, A_I dA a_o_size 6 x_o_size] (some (.int r0)) (fun _ : Unit => [O_Mo a_o x_o_code x_o_lamps x_o_at x_o_night x_o_spent x_o_rest x_o_shy a_o_had a_o_told a_o_barred a_o_cost a_o_last a_o_often x_o_hasBegun x_o_doneMany x_o_undoneMany a_o_changeOf a_o_changeAt a_o_before a_o_behind a_o_tape x_o_taped x_o_here x_o_fault x_o_open x_o_laid a_o_act a_o_with a_o_lineMany a_o_testEnd a_o_lineEnd a_o_facts a_o_pile x_o_hasLaw a_o_way a_o_bestWay x_o_bestMany a_o_wasHad a_o_wasLast x_o_wasAt x_o_wasNight x_o_hasImage x_o_keptLamps x_o_keptAt x_o_keptNight x_o_keptSpent a_o_keptHad a_o_keptTold a_o_keptLast a_o_keptOften x_o_bodies a_o_kind x_o_traces a_o_traced a_o_holds a_o_size a_o_elements a_o_shifted, A_I dA a_o_holds 6 x_o_holds, A_I dA a_o_size 6 x_o_size]) := by
  refine ct_intro "OneLampModel" rfl (by decide +kernel) (Nat.le_of_ble_eq_true rfl) [(0, .ref a_o), (1, .int p1), (2, .int p2)] rfl (fun _ C => ?_)
  unfold f_Mo_whyNoPlace at hf
  refine g_iload_n (pc' := 1) C 1 d_Mo_whyNoPlace_0 rfl rfl ?_
  replace hf := g_bi hf; obtain ⟨r1, hc2, hf⟩ := hf
  refine g_callS (pc' := 4) (st1 := [.int (b2i r1)]) (ws1 := [O_Mo a_o x_o_code x_o_lamps x_o_at x_o_night x_o_spent x_o_rest x_o_shy a_o_had a_o_told a_o_barred a_o_cost a_o_last a_o_often x_o_hasBegun x_o_doneMany x_o_undoneMany a_o_changeOf a_o_changeAt a_o_before a_o_behind a_o_tape x_o_taped x_o_here x_o_fault x_o_open x_o_laid a_o_act a_o_with a_o_lineMany a_o_testEnd a_o_lineEnd a_o_facts a_o_pile x_o_hasLaw a_o_way a_o_bestWay x_o_bestMany a_o_wasHad a_o_wasLast x_o_wasAt x_o_wasNight x_o_hasImage x_o_keptLamps x_o_keptAt x_o_keptNight x_o_keptSpent a_o_keptHad a_o_keptTold a_o_keptLast a_o_keptOften x_o_bodies a_o_kind x_o_traces a_o_traced a_o_holds a_o_size a_o_elements a_o_shifted, A_I dA a_o_holds 6 x_o_holds, A_I dA a_o_size 6 x_o_size]) C (c_Mo_isShelf (l := l) (D := D) (dA := dA)    hc2) yy_Mo_isShelf mw_5_107 d_Mo_whyNoPlace_1 rfl [] rfl rfl (Nat.le_of_ble_eq_true rfl) ⟨Nat.le_of_ble_eq_true rfl, Nat.le_of_ble_eq_true rfl⟩ rfl rfl (Nat.zero_le _) (Nat.zero_le _) [] rfl (by decide +kernel) rfl (g_lay_sel _ _ _ _ [(0, false), (1, false), (2, false)] (by decide +kernel) rfl (by decide +kernel) rfl rfl) rfl ?_
  refine g_if_neb (pc' := 7) (tgt := 9) C d_Mo_whyNoPlace_4 rfl rfl (fun h => ?_) (fun h => ?_)
  · replace hf := g_bt h hf
    refine g_aload_n (pc' := 10) C 0 d_Mo_whyNoPlace_9 rfl rfl ?_
    refine g_get (pc' := 13) C kf_Mo 54 mw_4_192 d_Mo_whyNoPlace_10 rfl 0 rfl (by decide) rfl ?_
    refine g_iload_n (pc' := 14) C 1 d_Mo_whyNoPlace_13 rfl rfl ?_
    have hb := g_ck hf
    replace hf := g_in hb hf
    refine g_iald (pc' := 15) C d_Mo_whyNoPlace_14 rfl 1 rfl hb ?_
    refine g_iconst (pc' := 16) (v := (-1)) C d_Mo_whyNoPlace_15 rfl rfl ?_
    refine g_icmp_ne (pc' := 19) (tgt := 22) C d_Mo_whyNoPlace_16 rfl rfl (fun h => ?_) (fun h => ?_)
    · replace hf := g_in h hf
      refine g_aload_n (pc' := 23) C 0 d_Mo_whyNoPlace_22 rfl rfl ?_
      refine g_get (pc' := 26) C kf_Mo 54 mw_4_192 d_Mo_whyNoPlace_23 rfl 0 rfl (by decide) rfl ?_
      refine g_iload_n (pc' := 27) C 1 d_Mo_whyNoPlace_26 rfl rfl ?_
      have hb := g_ck hf
      replace hf := g_in hb hf
      refine g_iald (pc' := 28) C d_Mo_whyNoPlace_27 rfl 1 rfl hb ?_
      refine g_if_lt (pc' := 31) (tgt := 34) C d_Mo_whyNoPlace_28 rfl rfl (fun h => ?_) (fun h => ?_)
      · replace hf := g_ip h hf
        refine g_iload_n (pc' := 35) C 2 d_Mo_whyNoPlace_34 rfl rfl ?_
        refine g_iconst (pc' := 36) (v := 0) C d_Mo_whyNoPlace_35 rfl rfl ?_
        refine g_aload_n (pc' := 37) C 0 d_Mo_whyNoPlace_36 rfl rfl ?_
        refine g_get (pc' := 40) C kf_Mo 55 mw_4_193 d_Mo_whyNoPlace_37 rfl 0 rfl (by decide) rfl ?_
        refine g_iload_n (pc' := 41) C 1 d_Mo_whyNoPlace_40 rfl rfl ?_
        have hb := g_ck hf
        replace hf := g_in hb hf
        refine g_iald (pc' := 42) C d_Mo_whyNoPlace_41 rfl 2 rfl hb ?_
        refine g_iconst (pc' := 43) (v := 1) C d_Mo_whyNoPlace_42 rfl rfl ?_
        refine g_isub (pc' := 44) C d_Mo_whyNoPlace_43 rfl ?_
        replace hf := g_bi hf; obtain ⟨r3, hc4, hf⟩ := hf
        refine g_callS (pc' := 47) (st1 := [.int (b2i r3)]) (ws1 := [O_Mo a_o x_o_code x_o_lamps x_o_at x_o_night x_o_spent x_o_rest x_o_shy a_o_had a_o_told a_o_barred a_o_cost a_o_last a_o_often x_o_hasBegun x_o_doneMany x_o_undoneMany a_o_changeOf a_o_changeAt a_o_before a_o_behind a_o_tape x_o_taped x_o_here x_o_fault x_o_open x_o_laid a_o_act a_o_with a_o_lineMany a_o_testEnd a_o_lineEnd a_o_facts a_o_pile x_o_hasLaw a_o_way a_o_bestWay x_o_bestMany a_o_wasHad a_o_wasLast x_o_wasAt x_o_wasNight x_o_hasImage x_o_keptLamps x_o_keptAt x_o_keptNight x_o_keptSpent a_o_keptHad a_o_keptTold a_o_keptLast a_o_keptOften x_o_bodies a_o_kind x_o_traces a_o_traced a_o_holds a_o_size a_o_elements a_o_shifted, A_I dA a_o_holds 6 x_o_holds, A_I dA a_o_size 6 x_o_size]) C (c_Mo_in (l := l) (D := D) (dA := dA)    hc4) yy_Mo_in mw_5_80 d_Mo_whyNoPlace_44 rfl [] rfl rfl (Nat.le_of_ble_eq_true rfl) ⟨Nat.le_of_ble_eq_true rfl, Nat.le_of_ble_eq_true rfl⟩ rfl rfl (Nat.zero_le _) (Nat.zero_le _) [] rfl (by decide +kernel) rfl (g_lay_sel _ _ _ _ [(0, false), (1, false), (2, false)] (by decide +kernel) rfl (by decide +kernel) rfl rfl) rfl ?_
        refine g_if_eqb (pc' := 50) (tgt := 54) C d_Mo_whyNoPlace_47 rfl rfl (fun h => ?_) (fun h => ?_)
        · replace hf := g_bf h hf
          refine g_bipush (pc' := 56) (v := (-13)) C d_Mo_whyNoPlace_54 rfl rfl ?_
          replace hf := Option.some.inj hf; subst hf
          exact g_iret C d_Mo_whyNoPlace_56 () rfl
        · replace hf := g_bt h hf
          refine g_iconst (pc' := 51) (v := 0) C d_Mo_whyNoPlace_50 rfl rfl ?_
          refine g_goto (tgt := 56) C d_Mo_whyNoPlace_51 rfl ?_
          replace hf := Option.some.inj hf; subst hf
          exact g_iret C d_Mo_whyNoPlace_56 () rfl
      · replace hf := g_in h hf
        refine g_bipush (pc' := 33) (v := (-12)) C d_Mo_whyNoPlace_31 rfl rfl ?_
        replace hf := Option.some.inj hf; subst hf
        exact g_iret C d_Mo_whyNoPlace_33 () rfl
    · replace hf := g_ip h hf
      refine g_bipush (pc' := 21) (v := (-11)) C d_Mo_whyNoPlace_19 rfl rfl ?_
      replace hf := Option.some.inj hf; subst hf
      exact g_iret C d_Mo_whyNoPlace_21 () rfl
  · replace hf := g_bf h hf
    refine g_iconst (pc' := 8) (v := (-1)) C d_Mo_whyNoPlace_7 rfl rfl ?_
    replace hf := Option.some.inj hf; subst hf
    exact g_iret C d_Mo_whyNoPlace_8 () rfl
def y_Mo_put : MethodName := ⟨"OneLampModel", "put", "(IIJ)I"⟩
theorem yy_Mo_put : YV y_Mo_put prog_13_method_98_code 7 (some .int) 3 := ⟨mw_6_209, mw_1_12, mw_6_207, mw_6_208, by decide +kernel, by decide +kernel, by decide +kernel⟩
theorem d_Mo_put_0 : decode prog_13_method_98_code 0 = .ok (.aload_n 0, 1) := by decide +kernel
theorem d_Mo_put_1 : decode prog_13_method_98_code 1 = .ok (.iload_n 1, 1) := by decide +kernel
theorem d_Mo_put_2 : decode prog_13_method_98_code 2 = .ok (.iload_n 2, 1) := by decide +kernel
theorem d_Mo_put_3 : decode prog_13_method_98_code 3 = .ok (.invokevirtual 400, 3) := by decide +kernel
theorem d_Mo_put_6 : decode prog_13_method_98_code 6 = .ok (.istore 5, 2) := by decide +kernel
theorem d_Mo_put_8 : decode prog_13_method_98_code 8 = .ok (.iload 5, 2) := by decide +kernel
theorem d_Mo_put_10 : decode prog_13_method_98_code 10 = .ok (.ifCond .ge 6, 3) := by decide +kernel
theorem d_Mo_put_13 : decode prog_13_method_98_code 13 = .ok (.iload 5, 2) := by decide +kernel
theorem d_Mo_put_15 : decode prog_13_method_98_code 15 = .ok (.ireturn, 1) := by decide +kernel
theorem d_Mo_put_16 : decode prog_13_method_98_code 16 = .ok (.bipush (-2), 2) := by decide +kernel
theorem d_Mo_put_18 : decode prog_13_method_98_code 18 = .ok (.aload_n 0, 1) := by decide +kernel
theorem d_Mo_put_19 : decode prog_13_method_98_code 19 = .ok (.getfield 101, 3) := by decide +kernel
theorem d_Mo_put_22 : decode prog_13_method_98_code 22 = .ok (.iload_n 1, 1) := by decide +kernel
theorem d_Mo_put_23 : decode prog_13_method_98_code 23 = .ok (.iaload, 1) := by decide +kernel
theorem d_Mo_put_24 : decode prog_13_method_98_code 24 = .ok (.isub, 1) := by decide +kernel
theorem d_Mo_put_25 : decode prog_13_method_98_code 25 = .ok (.istore 6, 2) := by decide +kernel
theorem d_Mo_put_27 : decode prog_13_method_98_code 27 = .ok (.aload_n 0, 1) := by decide +kernel
theorem d_Mo_put_28 : decode prog_13_method_98_code 28 = .ok (.getfield 107, 3) := by decide +kernel
theorem d_Mo_put_31 : decode prog_13_method_98_code 31 = .ok (.bipush 60, 2) := by decide +kernel
theorem d_Mo_put_33 : decode prog_13_method_98_code 33 = .ok (.iload_n 1, 1) := by decide +kernel
theorem d_Mo_put_34 : decode prog_13_method_98_code 34 = .ok (.imul, 1) := by decide +kernel
theorem d_Mo_put_35 : decode prog_13_method_98_code 35 = .ok (.iload_n 2, 1) := by decide +kernel
theorem d_Mo_put_36 : decode prog_13_method_98_code 36 = .ok (.iadd, 1) := by decide +kernel
theorem d_Mo_put_37 : decode prog_13_method_98_code 37 = .ok (.iload 6, 2) := by decide +kernel
theorem d_Mo_put_39 : decode prog_13_method_98_code 39 = .ok (.ifCond .ne 10, 3) := by decide +kernel
theorem d_Mo_put_42 : decode prog_13_method_98_code 42 = .ok (.lload_n 3, 1) := by decide +kernel
theorem d_Mo_put_43 : decode prog_13_method_98_code 43 = .ok (.l2i, 1) := by decide +kernel
theorem d_Mo_put_44 : decode prog_13_method_98_code 44 = .ok (.i2b, 1) := by decide +kernel
theorem d_Mo_put_45 : decode prog_13_method_98_code 45 = .ok (.i2l, 1) := by decide +kernel
theorem d_Mo_put_46 : decode prog_13_method_98_code 46 = .ok (.goto 49, 3) := by decide +kernel
theorem d_Mo_put_49 : decode prog_13_method_98_code 49 = .ok (.iload 6, 2) := by decide +kernel
theorem d_Mo_put_51 : decode prog_13_method_98_code 51 = .ok (.iconst 1, 1) := by decide +kernel
theorem d_Mo_put_52 : decode prog_13_method_98_code 52 = .ok (.if_icmp .ne 10, 3) := by decide +kernel
theorem d_Mo_put_55 : decode prog_13_method_98_code 55 = .ok (.lload_n 3, 1) := by decide +kernel
theorem d_Mo_put_56 : decode prog_13_method_98_code 56 = .ok (.l2i, 1) := by decide +kernel
theorem d_Mo_put_57 : decode prog_13_method_98_code 57 = .ok (.i2s, 1) := by decide +kernel
theorem d_Mo_put_58 : decode prog_13_method_98_code 58 = .ok (.i2l, 1) := by decide +kernel
theorem d_Mo_put_59 : decode prog_13_method_98_code 59 = .ok (.goto 36, 3) := by decide +kernel
theorem d_Mo_put_62 : decode prog_13_method_98_code 62 = .ok (.iload 6, 2) := by decide +kernel
theorem d_Mo_put_64 : decode prog_13_method_98_code 64 = .ok (.iconst 2, 1) := by decide +kernel
theorem d_Mo_put_65 : decode prog_13_method_98_code 65 = .ok (.if_icmp .ne 9, 3) := by decide +kernel
theorem d_Mo_put_68 : decode prog_13_method_98_code 68 = .ok (.lload_n 3, 1) := by decide +kernel
theorem d_Mo_put_69 : decode prog_13_method_98_code 69 = .ok (.l2i, 1) := by decide +kernel
theorem d_Mo_put_70 : decode prog_13_method_98_code 70 = .ok (.i2l, 1) := by decide +kernel
theorem d_Mo_put_71 : decode prog_13_method_98_code 71 = .ok (.goto 24, 3) := by decide +kernel
theorem d_Mo_put_74 : decode prog_13_method_98_code 74 = .ok (.iload 6, 2) := by decide +kernel
theorem d_Mo_put_76 : decode prog_13_method_98_code 76 = .ok (.iconst 3, 1) := by decide +kernel
theorem d_Mo_put_77 : decode prog_13_method_98_code 77 = .ok (.if_icmp .ne 7, 3) := by decide +kernel
theorem d_Mo_put_80 : decode prog_13_method_98_code 80 = .ok (.lload_n 3, 1) := by decide +kernel
theorem d_Mo_put_81 : decode prog_13_method_98_code 81 = .ok (.goto 14, 3) := by decide +kernel
theorem d_Mo_put_84 : decode prog_13_method_98_code 84 = .ok (.lload_n 3, 1) := by decide +kernel
theorem d_Mo_put_85 : decode prog_13_method_98_code 85 = .ok (.lconst 0, 1) := by decide +kernel
theorem d_Mo_put_86 : decode prog_13_method_98_code 86 = .ok (.lcmp, 1) := by decide +kernel
theorem d_Mo_put_87 : decode prog_13_method_98_code 87 = .ok (.ifCond .eq 7, 3) := by decide +kernel
theorem d_Mo_put_90 : decode prog_13_method_98_code 90 = .ok (.lconst 1, 1) := by decide +kernel
theorem d_Mo_put_91 : decode prog_13_method_98_code 91 = .ok (.goto 4, 3) := by decide +kernel
theorem d_Mo_put_94 : decode prog_13_method_98_code 94 = .ok (.lconst 0, 1) := by decide +kernel
theorem d_Mo_put_95 : decode prog_13_method_98_code 95 = .ok (.lastore, 1) := by decide +kernel
theorem d_Mo_put_96 : decode prog_13_method_98_code 96 = .ok (.iconst 1, 1) := by decide +kernel
theorem d_Mo_put_97 : decode prog_13_method_98_code 97 = .ok (.ireturn, 1) := by decide +kernel
def f_Mo_put  (p1 : Int32) (p2 : Int32) (p3 : Int64) (x_o_holds : Nat → Int32) (x_o_size : Nat → Int32) (x_o_elements : Nat → Int64) : Option (Int32 × (Nat → Int64)) :=
  (f_Mo_whyNoPlace  p1 p2 x_o_holds x_o_size).bind fun r1 =>
  if 0 ≤ r1 then
    (if p1 < 0 ∨ 6 ≤ Int32.toNatClampNeg p1 then none else
    if ((-2 : Int32) - (x_o_holds (Int32.toNatClampNeg p1))) = 0 then
      (if (((60 : Int32) * p1) + p2) < 0 ∨ 360 ≤ Int32.toNatClampNeg (((60 : Int32) * p1) + p2) then none else
      some ((1 : Int32), (vp_updL x_o_elements (Int32.toNatClampNeg (((60 : Int32) * p1) + p2)) (Int32.toInt64 (Int8.toInt32 (Int32.toInt8 (Int64.toInt32 p3)))))))
    else
      (if ((-2 : Int32) - (x_o_holds (Int32.toNatClampNeg p1))) = (1 : Int32) then
        (if (((60 : Int32) * p1) + p2) < 0 ∨ 360 ≤ Int32.toNatClampNeg (((60 : Int32) * p1) + p2) then none else
        some ((1 : Int32), (vp_updL x_o_elements (Int32.toNatClampNeg (((60 : Int32) * p1) + p2)) (Int32.toInt64 (Int16.toInt32 (Int32.toInt16 (Int64.toInt32 p3)))))))
      else
        (if ((-2 : Int32) - (x_o_holds (Int32.toNatClampNeg p1))) = (2 : Int32) then
          (if (((60 : Int32) * p1) + p2) < 0 ∨ 360 ≤ Int32.toNatClampNeg (((60 : Int32) * p1) + p2) then none else
          some ((1 : Int32), (vp_updL x_o_elements (Int32.toNatClampNeg (((60 : Int32) * p1) + p2)) (Int32.toInt64 (Int64.toInt32 p3)))))
        else
          (if ((-2 : Int32) - (x_o_holds (Int32.toNatClampNeg p1))) = (3 : Int32) then
            (if (((60 : Int32) * p1) + p2) < 0 ∨ 360 ≤ Int32.toNatClampNeg (((60 : Int32) * p1) + p2) then none else
            some ((1 : Int32), (vp_updL x_o_elements (Int32.toNatClampNeg (((60 : Int32) * p1) + p2)) p3)))
          else
            (if (lg_cmp p3 (0 : Int64)) = 0 then
              (if (((60 : Int32) * p1) + p2) < 0 ∨ 360 ≤ Int32.toNatClampNeg (((60 : Int32) * p1) + p2) then none else
              some ((1 : Int32), (vp_updL x_o_elements (Int32.toNatClampNeg (((60 : Int32) * p1) + p2)) (0 : Int64))))
            else
              (if (((60 : Int32) * p1) + p2) < 0 ∨ 360 ≤ Int32.toNatClampNeg (((60 : Int32) * p1) + p2) then none else
              some ((1 : Int32), (vp_updL x_o_elements (Int32.toNatClampNeg (((60 : Int32) * p1) + p2)) (1 : Int64)))))))))
  else
    (some (r1, x_o_elements))
set_option maxRecDepth 20000 in
theorem c_Mo_put {l : Launch} {D : va_G} {dA : Nat → ClassId} {a_o a_o_had a_o_told a_o_barred a_o_cost a_o_last a_o_often a_o_changeOf a_o_changeAt a_o_before a_o_behind a_o_tape a_o_act a_o_with a_o_lineMany a_o_testEnd a_o_lineEnd a_o_facts a_o_pile a_o_way a_o_bestWay a_o_wasHad a_o_wasLast a_o_keptHad a_o_keptTold a_o_keptLast a_o_keptOften a_o_kind a_o_traced a_o_holds a_o_size a_o_elements a_o_shifted : Nat} {x_o_code : Int32} {x_o_lamps : Int32} {x_o_at : Int32} {x_o_night : Int32} {x_o_spent : Int32} {x_o_rest : Int32} {x_o_shy : Int32} {x_o_hasBegun : Bool} {x_o_doneMany : Int32} {x_o_undoneMany : Int32} {x_o_taped : Int32} {x_o_here : Int32} {x_o_fault : Int32} {x_o_open : Int32} {x_o_laid : Int32} {x_o_hasLaw : Bool} {x_o_bestMany : Int32} {x_o_wasAt : Int32} {x_o_wasNight : Int32} {x_o_hasImage : Bool} {x_o_keptLamps : Int32} {x_o_keptAt : Int32} {x_o_keptNight : Int32} {x_o_keptSpent : Int32} {x_o_bodies : Int32} {x_o_traces : Int32} {p1 : Int32} {p2 : Int32} {p3 : Int64} {x_o_holds : Nat → Int32} {x_o_size : Nat → Int32} {x_o_elements : Nat → Int64} {r0 : Int32} {o_x_o_elements : Nat → Int64}   (hf : f_Mo_put  p1 p2 p3 x_o_holds x_o_size x_o_elements = some (r0, o_x_o_elements)) : CT l y_Mo_put prog_13_method_98_code 7 (some .int) { frames := 3, cells := 0, slots := 0, locals := 64 } D dA [.ref a_o, .int p1, .int p2, .long p3] [O_Mo a_o x_o_code x_o_lamps x_o_at x_o_night x_o_spent x_o_rest x_o_shy a_o_had a_o_told a_o_barred a_o_cost a_o_last a_o_often x_o_hasBegun x_o_doneMany x_o_undoneMany a_o_changeOf a_o_changeAt a_o_before a_o_behind a_o_tape x_o_taped x_o_here x_o_fault x_o_open x_o_laid a_o_act a_o_with a_o_lineMany a_o_testEnd a_o_lineEnd a_o_facts a_o_pile x_o_hasLaw a_o_way a_o_bestWay x_o_bestMany a_o_wasHad a_o_wasLast x_o_wasAt x_o_wasNight x_o_hasImage x_o_keptLamps x_o_keptAt x_o_keptNight x_o_keptSpent a_o_keptHad a_o_keptTold a_o_keptLast a_o_keptOften x_o_bodies a_o_kind x_o_traces a_o_traced a_o_holds a_o_size a_o_elements a_o_shifted, A_I dA a_o_holds 6 x_o_holds, A_I dA a_o_size 6 x_o_size, A_J dA a_o_elements 360 x_o_elements] (some (.int r0)) (fun _ : Unit => [O_Mo a_o x_o_code x_o_lamps x_o_at x_o_night x_o_spent x_o_rest x_o_shy a_o_had a_o_told a_o_barred a_o_cost a_o_last a_o_often x_o_hasBegun x_o_doneMany x_o_undoneMany a_o_changeOf a_o_changeAt a_o_before a_o_behind a_o_tape x_o_taped x_o_here x_o_fault x_o_open x_o_laid a_o_act a_o_with a_o_lineMany a_o_testEnd a_o_lineEnd a_o_facts a_o_pile x_o_hasLaw a_o_way a_o_bestWay x_o_bestMany a_o_wasHad a_o_wasLast x_o_wasAt x_o_wasNight x_o_hasImage x_o_keptLamps x_o_keptAt x_o_keptNight x_o_keptSpent a_o_keptHad a_o_keptTold a_o_keptLast a_o_keptOften x_o_bodies a_o_kind x_o_traces a_o_traced a_o_holds a_o_size a_o_elements a_o_shifted, A_I dA a_o_holds 6 x_o_holds, A_I dA a_o_size 6 x_o_size, A_J dA a_o_elements 360 o_x_o_elements]) := by
  refine ct_intro "OneLampModel" rfl (by decide +kernel) (Nat.le_of_ble_eq_true rfl) [(0, .ref a_o), (1, .int p1), (2, .int p2), (3, .long p3)] rfl (fun _ C => ?_)
  unfold f_Mo_put at hf
  refine g_aload_n (pc' := 1) C 0 d_Mo_put_0 rfl rfl ?_
  refine g_iload_n (pc' := 2) C 1 d_Mo_put_1 rfl rfl ?_
  refine g_iload_n (pc' := 3) C 2 d_Mo_put_2 rfl rfl ?_
  replace hf := g_bi hf; obtain ⟨r1, hc2, hf⟩ := hf
  refine g_callV (pc' := 6) (st1 := [.int r1]) (ws1 := [O_Mo a_o x_o_code x_o_lamps x_o_at x_o_night x_o_spent x_o_rest x_o_shy a_o_had a_o_told a_o_barred a_o_cost a_o_last a_o_often x_o_hasBegun x_o_doneMany x_o_undoneMany a_o_changeOf a_o_changeAt a_o_before a_o_behind a_o_tape x_o_taped x_o_here x_o_fault x_o_open x_o_laid a_o_act a_o_with a_o_lineMany a_o_testEnd a_o_lineEnd a_o_facts a_o_pile x_o_hasLaw a_o_way a_o_bestWay x_o_bestMany a_o_wasHad a_o_wasLast x_o_wasAt x_o_wasNight x_o_hasImage x_o_keptLamps x_o_keptAt x_o_keptNight x_o_keptSpent a_o_keptHad a_o_keptTold a_o_keptLast a_o_keptOften x_o_bodies a_o_kind x_o_traces a_o_traced a_o_holds a_o_size a_o_elements a_o_shifted, A_I dA a_o_holds 6 x_o_holds, A_I dA a_o_size 6 x_o_size, A_J dA a_o_elements 360 x_o_elements]) C (c_Mo_whyNoPlace (l := l) (D := D) (dA := dA) (a_o := a_o) (a_o_had := a_o_had) (a_o_told := a_o_told) (a_o_barred := a_o_barred) (a_o_cost := a_o_cost) (a_o_last := a_o_last) (a_o_often := a_o_often) (a_o_changeOf := a_o_changeOf) (a_o_changeAt := a_o_changeAt) (a_o_before := a_o_before) (a_o_behind := a_o_behind) (a_o_tape := a_o_tape) (a_o_act := a_o_act) (a_o_with := a_o_with) (a_o_lineMany := a_o_lineMany) (a_o_testEnd := a_o_testEnd) (a_o_lineEnd := a_o_lineEnd) (a_o_facts := a_o_facts) (a_o_pile := a_o_pile) (a_o_way := a_o_way) (a_o_bestWay := a_o_bestWay) (a_o_wasHad := a_o_wasHad) (a_o_wasLast := a_o_wasLast) (a_o_keptHad := a_o_keptHad) (a_o_keptTold := a_o_keptTold) (a_o_keptLast := a_o_keptLast) (a_o_keptOften := a_o_keptOften) (a_o_kind := a_o_kind) (a_o_traced := a_o_traced) (a_o_holds := a_o_holds) (a_o_size := a_o_size) (a_o_elements := a_o_elements) (a_o_shifted := a_o_shifted) (x_o_code := x_o_code) (x_o_lamps := x_o_lamps) (x_o_at := x_o_at) (x_o_night := x_o_night) (x_o_spent := x_o_spent) (x_o_rest := x_o_rest) (x_o_shy := x_o_shy) (x_o_hasBegun := x_o_hasBegun) (x_o_doneMany := x_o_doneMany) (x_o_undoneMany := x_o_undoneMany) (x_o_taped := x_o_taped) (x_o_here := x_o_here) (x_o_fault := x_o_fault) (x_o_open := x_o_open) (x_o_laid := x_o_laid) (x_o_hasLaw := x_o_hasLaw) (x_o_bestMany := x_o_bestMany) (x_o_wasAt := x_o_wasAt) (x_o_wasNight := x_o_wasNight) (x_o_hasImage := x_o_hasImage) (x_o_keptLamps := x_o_keptLamps) (x_o_keptAt := x_o_keptAt) (x_o_keptNight := x_o_keptNight) (x_o_keptSpent := x_o_keptSpent) (x_o_bodies := x_o_bodies) (x_o_traces := x_o_traces)   hc2) yy_Mo_whyNoPlace kf_Mo rfl mw_6_210 d_Mo_put_3 rfl [] rfl rfl (Nat.le_of_ble_eq_true rfl) ⟨Nat.le_of_ble_eq_true rfl, Nat.le_of_ble_eq_true rfl⟩ rfl rfl (Nat.zero_le _) (Nat.zero_le _) 0 rfl [0, 1, 2] rfl (by decide +kernel) rfl (g_lay_sel _ _ _ _ [(0, true), (1, true), (2, true), (3, false)] (by decide +kernel) rfl (by decide +kernel) rfl rfl) rfl ?_
  refine g_istore (pc' := 8) (lv' := [(5, .int r1), (0, .ref a_o), (1, .int p1), (2, .int p2), (3, .long p3)]) C d_Mo_put_6 rfl (by decide) rfl ?_
  refine g_iload (pc' := 10) C 0 d_Mo_put_8 rfl rfl ?_
  refine g_if_ge (pc' := 13) (tgt := 16) C d_Mo_put_10 rfl rfl (fun h => ?_) (fun h => ?_)
  · replace hf := g_ip h hf
    refine g_bipush (pc' := 18) (v := (-2)) C d_Mo_put_16 rfl rfl ?_
    refine g_aload_n (pc' := 19) C 1 d_Mo_put_18 rfl rfl ?_
    refine g_get (pc' := 22) C kf_Mo 54 mw_4_192 d_Mo_put_19 rfl 0 rfl (by decide) rfl ?_
    refine g_iload_n (pc' := 23) C 2 d_Mo_put_22 rfl rfl ?_
    have hb := g_ck hf
    replace hf := g_in hb hf
    refine g_iald (pc' := 24) C d_Mo_put_23 rfl 1 rfl hb ?_
    refine g_isub (pc' := 25) C d_Mo_put_24 rfl ?_
    refine g_istore (pc' := 27) (lv' := [(6, .int ((-2 : Int32) - (x_o_holds (Int32.toNatClampNeg p1)))), (5, .int r1), (0, .ref a_o), (1, .int p1), (2, .int p2), (3, .long p3)]) C d_Mo_put_25 rfl (by decide) rfl ?_
    refine g_aload_n (pc' := 28) C 2 d_Mo_put_27 rfl rfl ?_
    refine g_get (pc' := 31) C kf_Mo 56 mw_4_194 d_Mo_put_28 rfl 0 rfl (by decide) rfl ?_
    refine g_bipush (pc' := 33) (v := 60) C d_Mo_put_31 rfl rfl ?_
    refine g_iload_n (pc' := 34) C 3 d_Mo_put_33 rfl rfl ?_
    refine g_imul (pc' := 35) C d_Mo_put_34 rfl ?_
    refine g_iload_n (pc' := 36) C 4 d_Mo_put_35 rfl rfl ?_
    refine g_iadd (pc' := 37) C d_Mo_put_36 rfl ?_
    refine g_iload (pc' := 39) C 0 d_Mo_put_37 rfl rfl ?_
    refine g_if_ne (pc' := 42) (tgt := 49) C d_Mo_put_39 rfl rfl (fun h => ?_) (fun h => ?_)
    · replace hf := g_in h hf
      refine g_iload (pc' := 51) C 0 d_Mo_put_49 rfl rfl ?_
      refine g_iconst (pc' := 52) (v := 1) C d_Mo_put_51 rfl rfl ?_
      refine g_icmp_ne (pc' := 55) (tgt := 62) C d_Mo_put_52 rfl rfl (fun h => ?_) (fun h => ?_)
      · replace hf := g_in h hf
        refine g_iload (pc' := 64) C 0 d_Mo_put_62 rfl rfl ?_
        refine g_iconst (pc' := 65) (v := 2) C d_Mo_put_64 rfl rfl ?_
        refine g_icmp_ne (pc' := 68) (tgt := 74) C d_Mo_put_65 rfl rfl (fun h => ?_) (fun h => ?_)
        · replace hf := g_in h hf
          refine g_iload (pc' := 76) C 0 d_Mo_put_74 rfl rfl ?_
          refine g_iconst (pc' := 77) (v := 3) C d_Mo_put_76 rfl rfl ?_
          refine g_icmp_ne (pc' := 80) (tgt := 84) C d_Mo_put_77 rfl rfl (fun h => ?_) (fun h => ?_)
          · replace hf := g_in h hf
            refine g_lload_n (pc' := 85) C 5 d_Mo_put_84 rfl rfl ?_
            refine g_lconst (pc' := 86) (v := 0) C d_Mo_put_85 rfl rfl ?_
            refine g_lcmp (pc' := 87) C d_Mo_put_86 rfl ?_
            refine g_if_eq (pc' := 90) (tgt := 94) C d_Mo_put_87 rfl rfl (fun h => ?_) (fun h => ?_)
            · replace hf := g_ip h hf
              refine g_lconst (pc' := 95) (v := 0) C d_Mo_put_94 rfl rfl ?_
              have hb := g_ck hf
              replace hf := g_in hb hf
              refine g_last (pc' := 96) (ws' := [O_Mo a_o x_o_code x_o_lamps x_o_at x_o_night x_o_spent x_o_rest x_o_shy a_o_had a_o_told a_o_barred a_o_cost a_o_last a_o_often x_o_hasBegun x_o_doneMany x_o_undoneMany a_o_changeOf a_o_changeAt a_o_before a_o_behind a_o_tape x_o_taped x_o_here x_o_fault x_o_open x_o_laid a_o_act a_o_with a_o_lineMany a_o_testEnd a_o_lineEnd a_o_facts a_o_pile x_o_hasLaw a_o_way a_o_bestWay x_o_bestMany a_o_wasHad a_o_wasLast x_o_wasAt x_o_wasNight x_o_hasImage x_o_keptLamps x_o_keptAt x_o_keptNight x_o_keptSpent a_o_keptHad a_o_keptTold a_o_keptLast a_o_keptOften x_o_bodies a_o_kind x_o_traces a_o_traced a_o_holds a_o_size a_o_elements a_o_shifted, A_I dA a_o_holds 6 x_o_holds, A_I dA a_o_size 6 x_o_size, A_J dA a_o_elements 360 (vp_updL x_o_elements (Int32.toNatClampNeg (((60 : Int32) * p1) + p2)) (0 : Int64))]) C d_Mo_put_95 rfl 3 rfl hb rfl ?_
              refine g_iconst (pc' := 97) (v := 1) C d_Mo_put_96 rfl rfl ?_
              replace hf := g_o2 hf; obtain ⟨h1, hf⟩ := hf; subst h1
              replace hf := Option.some.inj hf; subst hf
              exact g_iret C d_Mo_put_97 () rfl
            · replace hf := g_in h hf
              refine g_lconst (pc' := 91) (v := 1) C d_Mo_put_90 rfl rfl ?_
              refine g_goto (tgt := 95) C d_Mo_put_91 rfl ?_
              have hb := g_ck hf
              replace hf := g_in hb hf
              refine g_last (pc' := 96) (ws' := [O_Mo a_o x_o_code x_o_lamps x_o_at x_o_night x_o_spent x_o_rest x_o_shy a_o_had a_o_told a_o_barred a_o_cost a_o_last a_o_often x_o_hasBegun x_o_doneMany x_o_undoneMany a_o_changeOf a_o_changeAt a_o_before a_o_behind a_o_tape x_o_taped x_o_here x_o_fault x_o_open x_o_laid a_o_act a_o_with a_o_lineMany a_o_testEnd a_o_lineEnd a_o_facts a_o_pile x_o_hasLaw a_o_way a_o_bestWay x_o_bestMany a_o_wasHad a_o_wasLast x_o_wasAt x_o_wasNight x_o_hasImage x_o_keptLamps x_o_keptAt x_o_keptNight x_o_keptSpent a_o_keptHad a_o_keptTold a_o_keptLast a_o_keptOften x_o_bodies a_o_kind x_o_traces a_o_traced a_o_holds a_o_size a_o_elements a_o_shifted, A_I dA a_o_holds 6 x_o_holds, A_I dA a_o_size 6 x_o_size, A_J dA a_o_elements 360 (vp_updL x_o_elements (Int32.toNatClampNeg (((60 : Int32) * p1) + p2)) (1 : Int64))]) C d_Mo_put_95 rfl 3 rfl hb rfl ?_
              refine g_iconst (pc' := 97) (v := 1) C d_Mo_put_96 rfl rfl ?_
              replace hf := g_o2 hf; obtain ⟨h1, hf⟩ := hf; subst h1
              replace hf := Option.some.inj hf; subst hf
              exact g_iret C d_Mo_put_97 () rfl
          · replace hf := g_ip h hf
            refine g_lload_n (pc' := 81) C 5 d_Mo_put_80 rfl rfl ?_
            refine g_goto (tgt := 95) C d_Mo_put_81 rfl ?_
            have hb := g_ck hf
            replace hf := g_in hb hf
            refine g_last (pc' := 96) (ws' := [O_Mo a_o x_o_code x_o_lamps x_o_at x_o_night x_o_spent x_o_rest x_o_shy a_o_had a_o_told a_o_barred a_o_cost a_o_last a_o_often x_o_hasBegun x_o_doneMany x_o_undoneMany a_o_changeOf a_o_changeAt a_o_before a_o_behind a_o_tape x_o_taped x_o_here x_o_fault x_o_open x_o_laid a_o_act a_o_with a_o_lineMany a_o_testEnd a_o_lineEnd a_o_facts a_o_pile x_o_hasLaw a_o_way a_o_bestWay x_o_bestMany a_o_wasHad a_o_wasLast x_o_wasAt x_o_wasNight x_o_hasImage x_o_keptLamps x_o_keptAt x_o_keptNight x_o_keptSpent a_o_keptHad a_o_keptTold a_o_keptLast a_o_keptOften x_o_bodies a_o_kind x_o_traces a_o_traced a_o_holds a_o_size a_o_elements a_o_shifted, A_I dA a_o_holds 6 x_o_holds, A_I dA a_o_size 6 x_o_size, A_J dA a_o_elements 360 (vp_updL x_o_elements (Int32.toNatClampNeg (((60 : Int32) * p1) + p2)) p3)]) C d_Mo_put_95 rfl 3 rfl hb rfl ?_
            refine g_iconst (pc' := 97) (v := 1) C d_Mo_put_96 rfl rfl ?_
            replace hf := g_o2 hf; obtain ⟨h1, hf⟩ := hf; subst h1
            replace hf := Option.some.inj hf; subst hf
            exact g_iret C d_Mo_put_97 () rfl
        · replace hf := g_ip h hf
          refine g_lload_n (pc' := 69) C 5 d_Mo_put_68 rfl rfl ?_
          refine g_l2i (pc' := 70) C d_Mo_put_69 rfl ?_
          refine g_i2l (pc' := 71) C d_Mo_put_70 rfl ?_
          refine g_goto (tgt := 95) C d_Mo_put_71 rfl ?_
          have hb := g_ck hf
          replace hf := g_in hb hf
          refine g_last (pc' := 96) (ws' := [O_Mo a_o x_o_code x_o_lamps x_o_at x_o_night x_o_spent x_o_rest x_o_shy a_o_had a_o_told a_o_barred a_o_cost a_o_last a_o_often x_o_hasBegun x_o_doneMany x_o_undoneMany a_o_changeOf a_o_changeAt a_o_before a_o_behind a_o_tape x_o_taped x_o_here x_o_fault x_o_open x_o_laid a_o_act a_o_with a_o_lineMany a_o_testEnd a_o_lineEnd a_o_facts a_o_pile x_o_hasLaw a_o_way a_o_bestWay x_o_bestMany a_o_wasHad a_o_wasLast x_o_wasAt x_o_wasNight x_o_hasImage x_o_keptLamps x_o_keptAt x_o_keptNight x_o_keptSpent a_o_keptHad a_o_keptTold a_o_keptLast a_o_keptOften x_o_bodies a_o_kind x_o_traces a_o_traced a_o_holds a_o_size a_o_elements a_o_shifted, A_I dA a_o_holds 6 x_o_holds, A_I dA a_o_size 6 x_o_size, A_J dA a_o_elements 360 (vp_updL x_o_elements (Int32.toNatClampNeg (((60 : Int32) * p1) + p2)) (Int32.toInt64 (Int64.toInt32 p3)))]) C d_Mo_put_95 rfl 3 rfl hb rfl ?_
          refine g_iconst (pc' := 97) (v := 1) C d_Mo_put_96 rfl rfl ?_
          replace hf := g_o2 hf; obtain ⟨h1, hf⟩ := hf; subst h1
          replace hf := Option.some.inj hf; subst hf
          exact g_iret C d_Mo_put_97 () rfl
      · replace hf := g_ip h hf
        refine g_lload_n (pc' := 56) C 5 d_Mo_put_55 rfl rfl ?_
        refine g_l2i (pc' := 57) C d_Mo_put_56 rfl ?_
        refine g_i2s (pc' := 58) C d_Mo_put_57 rfl ?_
        refine g_i2l (pc' := 59) C d_Mo_put_58 rfl ?_
        refine g_goto (tgt := 95) C d_Mo_put_59 rfl ?_
        have hb := g_ck hf
        replace hf := g_in hb hf
        refine g_last (pc' := 96) (ws' := [O_Mo a_o x_o_code x_o_lamps x_o_at x_o_night x_o_spent x_o_rest x_o_shy a_o_had a_o_told a_o_barred a_o_cost a_o_last a_o_often x_o_hasBegun x_o_doneMany x_o_undoneMany a_o_changeOf a_o_changeAt a_o_before a_o_behind a_o_tape x_o_taped x_o_here x_o_fault x_o_open x_o_laid a_o_act a_o_with a_o_lineMany a_o_testEnd a_o_lineEnd a_o_facts a_o_pile x_o_hasLaw a_o_way a_o_bestWay x_o_bestMany a_o_wasHad a_o_wasLast x_o_wasAt x_o_wasNight x_o_hasImage x_o_keptLamps x_o_keptAt x_o_keptNight x_o_keptSpent a_o_keptHad a_o_keptTold a_o_keptLast a_o_keptOften x_o_bodies a_o_kind x_o_traces a_o_traced a_o_holds a_o_size a_o_elements a_o_shifted, A_I dA a_o_holds 6 x_o_holds, A_I dA a_o_size 6 x_o_size, A_J dA a_o_elements 360 (vp_updL x_o_elements (Int32.toNatClampNeg (((60 : Int32) * p1) + p2)) (Int32.toInt64 (Int16.toInt32 (Int32.toInt16 (Int64.toInt32 p3)))))]) C d_Mo_put_95 rfl 3 rfl hb rfl ?_
        refine g_iconst (pc' := 97) (v := 1) C d_Mo_put_96 rfl rfl ?_
        replace hf := g_o2 hf; obtain ⟨h1, hf⟩ := hf; subst h1
        replace hf := Option.some.inj hf; subst hf
        exact g_iret C d_Mo_put_97 () rfl
    · replace hf := g_ip h hf
      refine g_lload_n (pc' := 43) C 5 d_Mo_put_42 rfl rfl ?_
      refine g_l2i (pc' := 44) C d_Mo_put_43 rfl ?_
      refine g_i2b (pc' := 45) C d_Mo_put_44 rfl ?_
      refine g_i2l (pc' := 46) C d_Mo_put_45 rfl ?_
      refine g_goto (tgt := 95) C d_Mo_put_46 rfl ?_
      have hb := g_ck hf
      replace hf := g_in hb hf
      refine g_last (pc' := 96) (ws' := [O_Mo a_o x_o_code x_o_lamps x_o_at x_o_night x_o_spent x_o_rest x_o_shy a_o_had a_o_told a_o_barred a_o_cost a_o_last a_o_often x_o_hasBegun x_o_doneMany x_o_undoneMany a_o_changeOf a_o_changeAt a_o_before a_o_behind a_o_tape x_o_taped x_o_here x_o_fault x_o_open x_o_laid a_o_act a_o_with a_o_lineMany a_o_testEnd a_o_lineEnd a_o_facts a_o_pile x_o_hasLaw a_o_way a_o_bestWay x_o_bestMany a_o_wasHad a_o_wasLast x_o_wasAt x_o_wasNight x_o_hasImage x_o_keptLamps x_o_keptAt x_o_keptNight x_o_keptSpent a_o_keptHad a_o_keptTold a_o_keptLast a_o_keptOften x_o_bodies a_o_kind x_o_traces a_o_traced a_o_holds a_o_size a_o_elements a_o_shifted, A_I dA a_o_holds 6 x_o_holds, A_I dA a_o_size 6 x_o_size, A_J dA a_o_elements 360 (vp_updL x_o_elements (Int32.toNatClampNeg (((60 : Int32) * p1) + p2)) (Int32.toInt64 (Int8.toInt32 (Int32.toInt8 (Int64.toInt32 p3)))))]) C d_Mo_put_95 rfl 3 rfl hb rfl ?_
      refine g_iconst (pc' := 97) (v := 1) C d_Mo_put_96 rfl rfl ?_
      replace hf := g_o2 hf; obtain ⟨h1, hf⟩ := hf; subst h1
      replace hf := Option.some.inj hf; subst hf
      exact g_iret C d_Mo_put_97 () rfl
  · replace hf := g_in h hf
    refine g_iload (pc' := 15) C 0 d_Mo_put_13 rfl rfl ?_
    replace hf := g_o2 hf; obtain ⟨h1, hf⟩ := hf; subst h1
    replace hf := Option.some.inj hf; subst hf
    exact g_iret C d_Mo_put_15 () rfl
def y_Mo_element : MethodName := ⟨"OneLampModel", "element", "(II)J"⟩
theorem yy_Mo_element : YV y_Mo_element prog_13_method_99_code 3 (some .long) 2 := ⟨mw_6_217, mw_1_12, mw_6_215, mw_6_216, by decide +kernel, by decide +kernel, by decide +kernel⟩
theorem d_Mo_element_0 : decode prog_13_method_99_code 0 = .ok (.aload_n 0, 1) := by decide +kernel
theorem d_Mo_element_1 : decode prog_13_method_99_code 1 = .ok (.iload_n 1, 1) := by decide +kernel
theorem d_Mo_element_2 : decode prog_13_method_99_code 2 = .ok (.iload_n 2, 1) := by decide +kernel
theorem d_Mo_element_3 : decode prog_13_method_99_code 3 = .ok (.invokevirtual 400, 3) := by decide +kernel
theorem d_Mo_element_6 : decode prog_13_method_99_code 6 = .ok (.ifCond .ge 9, 3) := by decide +kernel
theorem d_Mo_element_9 : decode prog_13_method_99_code 9 = .ok (.ldc2_w 405, 3) := by decide +kernel
theorem d_Mo_element_12 : decode prog_13_method_99_code 12 = .ok (.goto 14, 3) := by decide +kernel
theorem d_Mo_element_15 : decode prog_13_method_99_code 15 = .ok (.aload_n 0, 1) := by decide +kernel
theorem d_Mo_element_16 : decode prog_13_method_99_code 16 = .ok (.getfield 107, 3) := by decide +kernel
theorem d_Mo_element_19 : decode prog_13_method_99_code 19 = .ok (.bipush 60, 2) := by decide +kernel
theorem d_Mo_element_21 : decode prog_13_method_99_code 21 = .ok (.iload_n 1, 1) := by decide +kernel
theorem d_Mo_element_22 : decode prog_13_method_99_code 22 = .ok (.imul, 1) := by decide +kernel
theorem d_Mo_element_23 : decode prog_13_method_99_code 23 = .ok (.iload_n 2, 1) := by decide +kernel
theorem d_Mo_element_24 : decode prog_13_method_99_code 24 = .ok (.iadd, 1) := by decide +kernel
theorem d_Mo_element_25 : decode prog_13_method_99_code 25 = .ok (.laload, 1) := by decide +kernel
theorem d_Mo_element_26 : decode prog_13_method_99_code 26 = .ok (.lreturn, 1) := by decide +kernel
def f_Mo_element  (p1 : Int32) (p2 : Int32) (x_o_holds : Nat → Int32) (x_o_size : Nat → Int32) (x_o_elements : Nat → Int64) : Option (Int64) :=
  (f_Mo_whyNoPlace  p1 p2 x_o_holds x_o_size).bind fun r1 =>
  if 0 ≤ r1 then
    (if (((60 : Int32) * p1) + p2) < 0 ∨ 360 ≤ Int32.toNatClampNeg (((60 : Int32) * p1) + p2) then none else
    some ((x_o_elements (Int32.toNatClampNeg (((60 : Int32) * p1) + p2)))))
  else
    (some ((-9223372036854775808 : Int64)))
set_option maxRecDepth 20000 in
theorem c_Mo_element {l : Launch} {D : va_G} {dA : Nat → ClassId} {a_o a_o_had a_o_told a_o_barred a_o_cost a_o_last a_o_often a_o_changeOf a_o_changeAt a_o_before a_o_behind a_o_tape a_o_act a_o_with a_o_lineMany a_o_testEnd a_o_lineEnd a_o_facts a_o_pile a_o_way a_o_bestWay a_o_wasHad a_o_wasLast a_o_keptHad a_o_keptTold a_o_keptLast a_o_keptOften a_o_kind a_o_traced a_o_holds a_o_size a_o_elements a_o_shifted : Nat} {x_o_code : Int32} {x_o_lamps : Int32} {x_o_at : Int32} {x_o_night : Int32} {x_o_spent : Int32} {x_o_rest : Int32} {x_o_shy : Int32} {x_o_hasBegun : Bool} {x_o_doneMany : Int32} {x_o_undoneMany : Int32} {x_o_taped : Int32} {x_o_here : Int32} {x_o_fault : Int32} {x_o_open : Int32} {x_o_laid : Int32} {x_o_hasLaw : Bool} {x_o_bestMany : Int32} {x_o_wasAt : Int32} {x_o_wasNight : Int32} {x_o_hasImage : Bool} {x_o_keptLamps : Int32} {x_o_keptAt : Int32} {x_o_keptNight : Int32} {x_o_keptSpent : Int32} {x_o_bodies : Int32} {x_o_traces : Int32} {p1 : Int32} {p2 : Int32} {x_o_holds : Nat → Int32} {x_o_size : Nat → Int32} {x_o_elements : Nat → Int64} {r0 : Int64}   (hf : f_Mo_element  p1 p2 x_o_holds x_o_size x_o_elements = some r0) : CT l y_Mo_element prog_13_method_99_code 3 (some .long) { frames := 3, cells := 0, slots := 0, locals := 64 } D dA [.ref a_o, .int p1, .int p2] [O_Mo a_o x_o_code x_o_lamps x_o_at x_o_night x_o_spent x_o_rest x_o_shy a_o_had a_o_told a_o_barred a_o_cost a_o_last a_o_often x_o_hasBegun x_o_doneMany x_o_undoneMany a_o_changeOf a_o_changeAt a_o_before a_o_behind a_o_tape x_o_taped x_o_here x_o_fault x_o_open x_o_laid a_o_act a_o_with a_o_lineMany a_o_testEnd a_o_lineEnd a_o_facts a_o_pile x_o_hasLaw a_o_way a_o_bestWay x_o_bestMany a_o_wasHad a_o_wasLast x_o_wasAt x_o_wasNight x_o_hasImage x_o_keptLamps x_o_keptAt x_o_keptNight x_o_keptSpent a_o_keptHad a_o_keptTold a_o_keptLast a_o_keptOften x_o_bodies a_o_kind x_o_traces a_o_traced a_o_holds a_o_size a_o_elements a_o_shifted, A_I dA a_o_holds 6 x_o_holds, A_I dA a_o_size 6 x_o_size, A_J dA a_o_elements 360 x_o_elements] (some (.long r0)) (fun _ : Unit => [O_Mo a_o x_o_code x_o_lamps x_o_at x_o_night x_o_spent x_o_rest x_o_shy a_o_had a_o_told a_o_barred a_o_cost a_o_last a_o_often x_o_hasBegun x_o_doneMany x_o_undoneMany a_o_changeOf a_o_changeAt a_o_before a_o_behind a_o_tape x_o_taped x_o_here x_o_fault x_o_open x_o_laid a_o_act a_o_with a_o_lineMany a_o_testEnd a_o_lineEnd a_o_facts a_o_pile x_o_hasLaw a_o_way a_o_bestWay x_o_bestMany a_o_wasHad a_o_wasLast x_o_wasAt x_o_wasNight x_o_hasImage x_o_keptLamps x_o_keptAt x_o_keptNight x_o_keptSpent a_o_keptHad a_o_keptTold a_o_keptLast a_o_keptOften x_o_bodies a_o_kind x_o_traces a_o_traced a_o_holds a_o_size a_o_elements a_o_shifted, A_I dA a_o_holds 6 x_o_holds, A_I dA a_o_size 6 x_o_size, A_J dA a_o_elements 360 x_o_elements]) := by
  refine ct_intro "OneLampModel" rfl (by decide +kernel) (Nat.le_of_ble_eq_true rfl) [(0, .ref a_o), (1, .int p1), (2, .int p2)] rfl (fun _ C => ?_)
  unfold f_Mo_element at hf
  refine g_aload_n (pc' := 1) C 0 d_Mo_element_0 rfl rfl ?_
  refine g_iload_n (pc' := 2) C 1 d_Mo_element_1 rfl rfl ?_
  refine g_iload_n (pc' := 3) C 2 d_Mo_element_2 rfl rfl ?_
  replace hf := g_bi hf; obtain ⟨r1, hc2, hf⟩ := hf
  refine g_callV (pc' := 6) (st1 := [.int r1]) (ws1 := [O_Mo a_o x_o_code x_o_lamps x_o_at x_o_night x_o_spent x_o_rest x_o_shy a_o_had a_o_told a_o_barred a_o_cost a_o_last a_o_often x_o_hasBegun x_o_doneMany x_o_undoneMany a_o_changeOf a_o_changeAt a_o_before a_o_behind a_o_tape x_o_taped x_o_here x_o_fault x_o_open x_o_laid a_o_act a_o_with a_o_lineMany a_o_testEnd a_o_lineEnd a_o_facts a_o_pile x_o_hasLaw a_o_way a_o_bestWay x_o_bestMany a_o_wasHad a_o_wasLast x_o_wasAt x_o_wasNight x_o_hasImage x_o_keptLamps x_o_keptAt x_o_keptNight x_o_keptSpent a_o_keptHad a_o_keptTold a_o_keptLast a_o_keptOften x_o_bodies a_o_kind x_o_traces a_o_traced a_o_holds a_o_size a_o_elements a_o_shifted, A_I dA a_o_holds 6 x_o_holds, A_I dA a_o_size 6 x_o_size, A_J dA a_o_elements 360 x_o_elements]) C (c_Mo_whyNoPlace (l := l) (D := D) (dA := dA) (a_o := a_o) (a_o_had := a_o_had) (a_o_told := a_o_told) (a_o_barred := a_o_barred) (a_o_cost := a_o_cost) (a_o_last := a_o_last) (a_o_often := a_o_often) (a_o_changeOf := a_o_changeOf) (a_o_changeAt := a_o_changeAt) (a_o_before := a_o_before) (a_o_behind := a_o_behind) (a_o_tape := a_o_tape) (a_o_act := a_o_act) (a_o_with := a_o_with) (a_o_lineMany := a_o_lineMany) (a_o_testEnd := a_o_testEnd) (a_o_lineEnd := a_o_lineEnd) (a_o_facts := a_o_facts) (a_o_pile := a_o_pile) (a_o_way := a_o_way) (a_o_bestWay := a_o_bestWay) (a_o_wasHad := a_o_wasHad) (a_o_wasLast := a_o_wasLast) (a_o_keptHad := a_o_keptHad) (a_o_keptTold := a_o_keptTold) (a_o_keptLast := a_o_keptLast) (a_o_keptOften := a_o_keptOften) (a_o_kind := a_o_kind) (a_o_traced := a_o_traced) (a_o_holds := a_o_holds) (a_o_size := a_o_size) (a_o_elements := a_o_elements) (a_o_shifted := a_o_shifted) (x_o_code := x_o_code) (x_o_lamps := x_o_lamps) (x_o_at := x_o_at) (x_o_night := x_o_night) (x_o_spent := x_o_spent) (x_o_rest := x_o_rest) (x_o_shy := x_o_shy) (x_o_hasBegun := x_o_hasBegun) (x_o_doneMany := x_o_doneMany) (x_o_undoneMany := x_o_undoneMany) (x_o_taped := x_o_taped) (x_o_here := x_o_here) (x_o_fault := x_o_fault) (x_o_open := x_o_open) (x_o_laid := x_o_laid) (x_o_hasLaw := x_o_hasLaw) (x_o_bestMany := x_o_bestMany) (x_o_wasAt := x_o_wasAt) (x_o_wasNight := x_o_wasNight) (x_o_hasImage := x_o_hasImage) (x_o_keptLamps := x_o_keptLamps) (x_o_keptAt := x_o_keptAt) (x_o_keptNight := x_o_keptNight) (x_o_keptSpent := x_o_keptSpent) (x_o_bodies := x_o_bodies) (x_o_traces := x_o_traces)   hc2) yy_Mo_whyNoPlace kf_Mo rfl mw_6_210 d_Mo_element_3 rfl [] rfl rfl (Nat.le_of_ble_eq_true rfl) ⟨Nat.le_of_ble_eq_true rfl, Nat.le_of_ble_eq_true rfl⟩ rfl rfl (Nat.zero_le _) (Nat.zero_le _) 0 rfl [0, 1, 2] rfl (by decide +kernel) rfl (g_lay_sel _ _ _ _ [(0, true), (1, true), (2, true), (3, false)] (by decide +kernel) rfl (by decide +kernel) rfl rfl) rfl ?_
  refine g_if_ge (pc' := 9) (tgt := 15) C d_Mo_element_6 rfl rfl (fun h => ?_) (fun h => ?_)
  · replace hf := g_ip h hf
    refine g_aload_n (pc' := 16) C 0 d_Mo_element_15 rfl rfl ?_
    refine g_get (pc' := 19) C kf_Mo 56 mw_4_194 d_Mo_element_16 rfl 0 rfl (by decide) rfl ?_
    refine g_bipush (pc' := 21) (v := 60) C d_Mo_element_19 rfl rfl ?_
    refine g_iload_n (pc' := 22) C 1 d_Mo_element_21 rfl rfl ?_
    refine g_imul (pc' := 23) C d_Mo_element_22 rfl ?_
    refine g_iload_n (pc' := 24) C 2 d_Mo_element_23 rfl rfl ?_
    refine g_iadd (pc' := 25) C d_Mo_element_24 rfl ?_
    have hb := g_ck hf
    replace hf := g_in hb hf
    refine g_lald (pc' := 26) C d_Mo_element_25 rfl 3 rfl hb ?_
    replace hf := Option.some.inj hf; subst hf
    exact g_lret C d_Mo_element_26 () rfl
  · replace hf := g_in h hf
    refine g_ldc2 (pc' := 12) (v := (-9223372036854775808)) C d_Mo_element_9 rfl mw_6_218 ?_
    refine g_goto (tgt := 26) C d_Mo_element_12 rfl ?_
    replace hf := Option.some.inj hf; subst hf
    exact g_lret C d_Mo_element_26 () rfl
def y_Mo_shift : MethodName := ⟨"OneLampModel", "shift", "(IIIII)I"⟩
theorem yy_Mo_shift : YV y_Mo_shift prog_13_method_100_code 7 (some .int) 5 := ⟨mw_6_222, mw_1_12, mw_6_220, mw_6_221, by decide +kernel, by decide +kernel, by decide +kernel⟩
theorem d_Mo_shift_0 : decode prog_13_method_100_code 0 = .ok (.iload_n 1, 1) := by decide +kernel
theorem d_Mo_shift_1 : decode prog_13_method_100_code 1 = .ok (.invokestatic 146, 3) := by decide +kernel
theorem d_Mo_shift_4 : decode prog_13_method_100_code 4 = .ok (.ifCond .eq 10, 3) := by decide +kernel
theorem d_Mo_shift_7 : decode prog_13_method_100_code 7 = .ok (.iload_n 3, 1) := by decide +kernel
theorem d_Mo_shift_8 : decode prog_13_method_100_code 8 = .ok (.invokestatic 146, 3) := by decide +kernel
theorem d_Mo_shift_11 : decode prog_13_method_100_code 11 = .ok (.ifCond .ne 5, 3) := by decide +kernel
theorem d_Mo_shift_14 : decode prog_13_method_100_code 14 = .ok (.iconst (-1), 1) := by decide +kernel
theorem d_Mo_shift_15 : decode prog_13_method_100_code 15 = .ok (.ireturn, 1) := by decide +kernel
theorem d_Mo_shift_16 : decode prog_13_method_100_code 16 = .ok (.aload_n 0, 1) := by decide +kernel
theorem d_Mo_shift_17 : decode prog_13_method_100_code 17 = .ok (.getfield 101, 3) := by decide +kernel
theorem d_Mo_shift_20 : decode prog_13_method_100_code 20 = .ok (.iload_n 1, 1) := by decide +kernel
theorem d_Mo_shift_21 : decode prog_13_method_100_code 21 = .ok (.iaload, 1) := by decide +kernel
theorem d_Mo_shift_22 : decode prog_13_method_100_code 22 = .ok (.iconst (-1), 1) := by decide +kernel
theorem d_Mo_shift_23 : decode prog_13_method_100_code 23 = .ok (.if_icmp .eq 13, 3) := by decide +kernel
theorem d_Mo_shift_26 : decode prog_13_method_100_code 26 = .ok (.aload_n 0, 1) := by decide +kernel
theorem d_Mo_shift_27 : decode prog_13_method_100_code 27 = .ok (.getfield 101, 3) := by decide +kernel
theorem d_Mo_shift_30 : decode prog_13_method_100_code 30 = .ok (.iload_n 3, 1) := by decide +kernel
theorem d_Mo_shift_31 : decode prog_13_method_100_code 31 = .ok (.iaload, 1) := by decide +kernel
theorem d_Mo_shift_32 : decode prog_13_method_100_code 32 = .ok (.iconst (-1), 1) := by decide +kernel
theorem d_Mo_shift_33 : decode prog_13_method_100_code 33 = .ok (.if_icmp .ne 6, 3) := by decide +kernel
theorem d_Mo_shift_36 : decode prog_13_method_100_code 36 = .ok (.bipush (-11), 2) := by decide +kernel
theorem d_Mo_shift_38 : decode prog_13_method_100_code 38 = .ok (.ireturn, 1) := by decide +kernel
theorem d_Mo_shift_39 : decode prog_13_method_100_code 39 = .ok (.aload_n 0, 1) := by decide +kernel
theorem d_Mo_shift_40 : decode prog_13_method_100_code 40 = .ok (.getfield 101, 3) := by decide +kernel
theorem d_Mo_shift_43 : decode prog_13_method_100_code 43 = .ok (.iload_n 1, 1) := by decide +kernel
theorem d_Mo_shift_44 : decode prog_13_method_100_code 44 = .ok (.iaload, 1) := by decide +kernel
theorem d_Mo_shift_45 : decode prog_13_method_100_code 45 = .ok (.ifCond .ge 18, 3) := by decide +kernel
theorem d_Mo_shift_48 : decode prog_13_method_100_code 48 = .ok (.aload_n 0, 1) := by decide +kernel
theorem d_Mo_shift_49 : decode prog_13_method_100_code 49 = .ok (.getfield 101, 3) := by decide +kernel
theorem d_Mo_shift_52 : decode prog_13_method_100_code 52 = .ok (.iload_n 1, 1) := by decide +kernel
theorem d_Mo_shift_53 : decode prog_13_method_100_code 53 = .ok (.iaload, 1) := by decide +kernel
theorem d_Mo_shift_54 : decode prog_13_method_100_code 54 = .ok (.aload_n 0, 1) := by decide +kernel
theorem d_Mo_shift_55 : decode prog_13_method_100_code 55 = .ok (.getfield 101, 3) := by decide +kernel
theorem d_Mo_shift_58 : decode prog_13_method_100_code 58 = .ok (.iload_n 3, 1) := by decide +kernel
theorem d_Mo_shift_59 : decode prog_13_method_100_code 59 = .ok (.iaload, 1) := by decide +kernel
theorem d_Mo_shift_60 : decode prog_13_method_100_code 60 = .ok (.if_icmp .eq 6, 3) := by decide +kernel
theorem d_Mo_shift_63 : decode prog_13_method_100_code 63 = .ok (.bipush (-12), 2) := by decide +kernel
theorem d_Mo_shift_65 : decode prog_13_method_100_code 65 = .ok (.ireturn, 1) := by decide +kernel
theorem d_Mo_shift_66 : decode prog_13_method_100_code 66 = .ok (.iload 5, 2) := by decide +kernel
theorem d_Mo_shift_68 : decode prog_13_method_100_code 68 = .ok (.ifCond .lt 39, 3) := by decide +kernel
theorem d_Mo_shift_71 : decode prog_13_method_100_code 71 = .ok (.iload_n 2, 1) := by decide +kernel
theorem d_Mo_shift_72 : decode prog_13_method_100_code 72 = .ok (.ifCond .lt 35, 3) := by decide +kernel
theorem d_Mo_shift_75 : decode prog_13_method_100_code 75 = .ok (.iload 4, 2) := by decide +kernel
theorem d_Mo_shift_77 : decode prog_13_method_100_code 77 = .ok (.ifCond .lt 30, 3) := by decide +kernel
theorem d_Mo_shift_80 : decode prog_13_method_100_code 80 = .ok (.iload_n 2, 1) := by decide +kernel
theorem d_Mo_shift_81 : decode prog_13_method_100_code 81 = .ok (.aload_n 0, 1) := by decide +kernel
theorem d_Mo_shift_82 : decode prog_13_method_100_code 82 = .ok (.getfield 104, 3) := by decide +kernel
theorem d_Mo_shift_85 : decode prog_13_method_100_code 85 = .ok (.iload_n 1, 1) := by decide +kernel
theorem d_Mo_shift_86 : decode prog_13_method_100_code 86 = .ok (.iaload, 1) := by decide +kernel
theorem d_Mo_shift_87 : decode prog_13_method_100_code 87 = .ok (.iload 5, 2) := by decide +kernel
theorem d_Mo_shift_89 : decode prog_13_method_100_code 89 = .ok (.isub, 1) := by decide +kernel
theorem d_Mo_shift_90 : decode prog_13_method_100_code 90 = .ok (.if_icmp .gt 17, 3) := by decide +kernel
theorem d_Mo_shift_93 : decode prog_13_method_100_code 93 = .ok (.iload 4, 2) := by decide +kernel
theorem d_Mo_shift_95 : decode prog_13_method_100_code 95 = .ok (.aload_n 0, 1) := by decide +kernel
theorem d_Mo_shift_96 : decode prog_13_method_100_code 96 = .ok (.getfield 104, 3) := by decide +kernel
theorem d_Mo_shift_99 : decode prog_13_method_100_code 99 = .ok (.iload_n 3, 1) := by decide +kernel
theorem d_Mo_shift_100 : decode prog_13_method_100_code 100 = .ok (.iaload, 1) := by decide +kernel
theorem d_Mo_shift_101 : decode prog_13_method_100_code 101 = .ok (.iload 5, 2) := by decide +kernel
theorem d_Mo_shift_103 : decode prog_13_method_100_code 103 = .ok (.isub, 1) := by decide +kernel
theorem d_Mo_shift_104 : decode prog_13_method_100_code 104 = .ok (.if_icmp .le 6, 3) := by decide +kernel
theorem d_Mo_shift_107 : decode prog_13_method_100_code 107 = .ok (.bipush (-13), 2) := by decide +kernel
theorem d_Mo_shift_109 : decode prog_13_method_100_code 109 = .ok (.ireturn, 1) := by decide +kernel
theorem d_Mo_shift_110 : decode prog_13_method_100_code 110 = .ok (.iconst 0, 1) := by decide +kernel
theorem d_Mo_shift_111 : decode prog_13_method_100_code 111 = .ok (.istore 6, 2) := by decide +kernel
theorem d_Mo_shift_113 : decode prog_13_method_100_code 113 = .ok (.iload 6, 2) := by decide +kernel
theorem d_Mo_shift_115 : decode prog_13_method_100_code 115 = .ok (.iload 5, 2) := by decide +kernel
theorem d_Mo_shift_117 : decode prog_13_method_100_code 117 = .ok (.if_icmp .ge 30, 3) := by decide +kernel
theorem d_Mo_shift_120 : decode prog_13_method_100_code 120 = .ok (.aload_n 0, 1) := by decide +kernel
theorem d_Mo_shift_121 : decode prog_13_method_100_code 121 = .ok (.getfield 111, 3) := by decide +kernel
theorem d_Mo_shift_124 : decode prog_13_method_100_code 124 = .ok (.iload 6, 2) := by decide +kernel
theorem d_Mo_shift_126 : decode prog_13_method_100_code 126 = .ok (.aload_n 0, 1) := by decide +kernel
theorem d_Mo_shift_127 : decode prog_13_method_100_code 127 = .ok (.getfield 107, 3) := by decide +kernel
theorem d_Mo_shift_130 : decode prog_13_method_100_code 130 = .ok (.bipush 60, 2) := by decide +kernel
theorem d_Mo_shift_132 : decode prog_13_method_100_code 132 = .ok (.iload_n 1, 1) := by decide +kernel
theorem d_Mo_shift_133 : decode prog_13_method_100_code 133 = .ok (.imul, 1) := by decide +kernel
theorem d_Mo_shift_134 : decode prog_13_method_100_code 134 = .ok (.iload_n 2, 1) := by decide +kernel
theorem d_Mo_shift_135 : decode prog_13_method_100_code 135 = .ok (.iadd, 1) := by decide +kernel
theorem d_Mo_shift_136 : decode prog_13_method_100_code 136 = .ok (.iload 6, 2) := by decide +kernel
theorem d_Mo_shift_138 : decode prog_13_method_100_code 138 = .ok (.iadd, 1) := by decide +kernel
theorem d_Mo_shift_139 : decode prog_13_method_100_code 139 = .ok (.laload, 1) := by decide +kernel
theorem d_Mo_shift_140 : decode prog_13_method_100_code 140 = .ok (.lastore, 1) := by decide +kernel
theorem d_Mo_shift_141 : decode prog_13_method_100_code 141 = .ok (.iinc 6 1, 3) := by decide +kernel
theorem d_Mo_shift_144 : decode prog_13_method_100_code 144 = .ok (.goto (-31), 3) := by decide +kernel
theorem d_Mo_shift_147 : decode prog_13_method_100_code 147 = .ok (.iconst 0, 1) := by decide +kernel
theorem d_Mo_shift_148 : decode prog_13_method_100_code 148 = .ok (.istore 6, 2) := by decide +kernel
theorem d_Mo_shift_150 : decode prog_13_method_100_code 150 = .ok (.iload 6, 2) := by decide +kernel
theorem d_Mo_shift_152 : decode prog_13_method_100_code 152 = .ok (.iload 5, 2) := by decide +kernel
theorem d_Mo_shift_154 : decode prog_13_method_100_code 154 = .ok (.if_icmp .ge 31, 3) := by decide +kernel
theorem d_Mo_shift_157 : decode prog_13_method_100_code 157 = .ok (.aload_n 0, 1) := by decide +kernel
theorem d_Mo_shift_158 : decode prog_13_method_100_code 158 = .ok (.getfield 107, 3) := by decide +kernel
theorem d_Mo_shift_161 : decode prog_13_method_100_code 161 = .ok (.bipush 60, 2) := by decide +kernel
theorem d_Mo_shift_163 : decode prog_13_method_100_code 163 = .ok (.iload_n 3, 1) := by decide +kernel
theorem d_Mo_shift_164 : decode prog_13_method_100_code 164 = .ok (.imul, 1) := by decide +kernel
theorem d_Mo_shift_165 : decode prog_13_method_100_code 165 = .ok (.iload 4, 2) := by decide +kernel
theorem d_Mo_shift_167 : decode prog_13_method_100_code 167 = .ok (.iadd, 1) := by decide +kernel
theorem d_Mo_shift_168 : decode prog_13_method_100_code 168 = .ok (.iload 6, 2) := by decide +kernel
theorem d_Mo_shift_170 : decode prog_13_method_100_code 170 = .ok (.iadd, 1) := by decide +kernel
theorem d_Mo_shift_171 : decode prog_13_method_100_code 171 = .ok (.aload_n 0, 1) := by decide +kernel
theorem d_Mo_shift_172 : decode prog_13_method_100_code 172 = .ok (.getfield 111, 3) := by decide +kernel
theorem d_Mo_shift_175 : decode prog_13_method_100_code 175 = .ok (.iload 6, 2) := by decide +kernel
theorem d_Mo_shift_177 : decode prog_13_method_100_code 177 = .ok (.laload, 1) := by decide +kernel
theorem d_Mo_shift_178 : decode prog_13_method_100_code 178 = .ok (.lastore, 1) := by decide +kernel
theorem d_Mo_shift_179 : decode prog_13_method_100_code 179 = .ok (.iinc 6 1, 3) := by decide +kernel
theorem d_Mo_shift_182 : decode prog_13_method_100_code 182 = .ok (.goto (-32), 3) := by decide +kernel
theorem d_Mo_shift_185 : decode prog_13_method_100_code 185 = .ok (.iload 5, 2) := by decide +kernel
theorem d_Mo_shift_187 : decode prog_13_method_100_code 187 = .ok (.ireturn, 1) := by decide +kernel
def f_Mo_shift_L150   : Nat → Int32 → Int32 → Int32 → Int32 → (Nat → Int64) → (Nat → Int64) → Option (Int32 × (Nat → Int64) × (Nat → Int64))
  | 0, _, _, _, _, _, _ => none
  | n + 1, v3, v4, v5, v6, x_o_elements, x_o_shifted =>
    if v5 ≤ v6 then
      (some (v5, x_o_elements, x_o_shifted))
    else
      (if v6 < 0 ∨ 60 ≤ Int32.toNatClampNeg v6 then none else
      if ((((60 : Int32) * v3) + v4) + v6) < 0 ∨ 360 ≤ Int32.toNatClampNeg ((((60 : Int32) * v3) + v4) + v6) then none else
      f_Mo_shift_L150  n v3 v4 v5 (v6 + 1) (vp_updL x_o_elements (Int32.toNatClampNeg ((((60 : Int32) * v3) + v4) + v6)) (x_o_shifted (Int32.toNatClampNeg v6))) x_o_shifted)
set_option maxRecDepth 20000 in
theorem w_Mo_shift_L150 {p : Program} {l : Launch} {e : Env} {s : State} {m : MethodId} {args : Array Value} {below : List Frame} {meth : Method} {c : Code} {D : va_G} {dA : Nat → ClassId} {A : Nat → Prop} (C : GC p s m args meth c prog_13_method_100_code 7 "OneLampModel" (some .int) D dA A) {a_o a_o_had a_o_told a_o_barred a_o_cost a_o_last a_o_often a_o_changeOf a_o_changeAt a_o_before a_o_behind a_o_tape a_o_act a_o_with a_o_lineMany a_o_testEnd a_o_lineEnd a_o_facts a_o_pile a_o_way a_o_bestWay a_o_wasHad a_o_wasLast a_o_keptHad a_o_keptTold a_o_keptLast a_o_keptOften a_o_kind a_o_traced a_o_holds a_o_size a_o_elements a_o_shifted : Nat} {x_o_code : Int32} {x_o_lamps : Int32} {x_o_at : Int32} {x_o_night : Int32} {x_o_spent : Int32} {x_o_rest : Int32} {x_o_shy : Int32} {x_o_hasBegun : Bool} {x_o_doneMany : Int32} {x_o_undoneMany : Int32} {x_o_taped : Int32} {x_o_here : Int32} {x_o_fault : Int32} {x_o_open : Int32} {x_o_laid : Int32} {x_o_hasLaw : Bool} {x_o_bestMany : Int32} {x_o_wasAt : Int32} {x_o_wasNight : Int32} {x_o_hasImage : Bool} {x_o_keptLamps : Int32} {x_o_keptAt : Int32} {x_o_keptNight : Int32} {x_o_keptSpent : Int32} {x_o_bodies : Int32} {x_o_traces : Int32} {x_o_holds : Nat → Int32} {x_o_size : Nat → Int32} {r0 : Int32} {o_x_o_elements : Nat → Int64} {o_x_o_shifted : Nat → Int64}    : ∀ (n : Nat) (v3 : Int32) (v4 : Int32) (v5 : Int32) (v6 : Int32) (x_o_elements : Nat → Int64) (x_o_shifted : Nat → Int64), f_Mo_shift_L150   n v3 v4 v5 v6 x_o_elements x_o_shifted = some (r0, o_x_o_elements, o_x_o_shifted) → GG p l e { frames := 2, cells := 0, slots := 0, locals := 42 } s m args below meth c 7 D A 0 0 (MQ below (cQ D A (some (.int r0)) (fun _ : Unit => [O_Mo a_o x_o_code x_o_lamps x_o_at x_o_night x_o_spent x_o_rest x_o_shy a_o_had a_o_told a_o_barred a_o_cost a_o_last a_o_often x_o_hasBegun x_o_doneMany x_o_undoneMany a_o_changeOf a_o_changeAt a_o_before a_o_behind a_o_tape x_o_taped x_o_here x_o_fault x_o_open x_o_laid a_o_act a_o_with a_o_lineMany a_o_testEnd a_o_lineEnd a_o_facts a_o_pile x_o_hasLaw a_o_way a_o_bestWay x_o_bestMany a_o_wasHad a_o_wasLast x_o_wasAt x_o_wasNight x_o_hasImage x_o_keptLamps x_o_keptAt x_o_keptNight x_o_keptSpent a_o_keptHad a_o_keptTold a_o_keptLast a_o_keptOften x_o_bodies a_o_kind x_o_traces a_o_traced a_o_holds a_o_size a_o_elements a_o_shifted, A_I dA a_o_holds 6 x_o_holds, A_I dA a_o_size 6 x_o_size, A_J dA a_o_elements 360 o_x_o_elements, A_J dA a_o_shifted 60 o_x_o_shifted])) args s 0 0 A) 150 [(0, .ref a_o), (3, .int v3), (4, .int v4), (5, .int v5), (6, .int v6)] [] [O_Mo a_o x_o_code x_o_lamps x_o_at x_o_night x_o_spent x_o_rest x_o_shy a_o_had a_o_told a_o_barred a_o_cost a_o_last a_o_often x_o_hasBegun x_o_doneMany x_o_undoneMany a_o_changeOf a_o_changeAt a_o_before a_o_behind a_o_tape x_o_taped x_o_here x_o_fault x_o_open x_o_laid a_o_act a_o_with a_o_lineMany a_o_testEnd a_o_lineEnd a_o_facts a_o_pile x_o_hasLaw a_o_way a_o_bestWay x_o_bestMany a_o_wasHad a_o_wasLast x_o_wasAt x_o_wasNight x_o_hasImage x_o_keptLamps x_o_keptAt x_o_keptNight x_o_keptSpent a_o_keptHad a_o_keptTold a_o_keptLast a_o_keptOften x_o_bodies a_o_kind x_o_traces a_o_traced a_o_holds a_o_size a_o_elements a_o_shifted, A_I dA a_o_holds 6 x_o_holds, A_I dA a_o_size 6 x_o_size, A_J dA a_o_elements 360 x_o_elements, A_J dA a_o_shifted 60 x_o_shifted] := by
  intro n
  induction n with
  | zero =>
    intro v3 v4 v5 v6 x_o_elements x_o_shifted hf
    cases hf
  | succ n ih =>
    intro v3 v4 v5 v6 x_o_elements x_o_shifted hf
    unfold f_Mo_shift_L150 at hf
    refine g_iload (pc' := 152) C 4 d_Mo_shift_150 rfl rfl ?_
    refine g_iload (pc' := 154) C 3 d_Mo_shift_152 rfl rfl ?_
    refine g_icmp_ge (pc' := 157) (tgt := 185) C d_Mo_shift_154 rfl rfl (fun h => ?_) (fun h => ?_)
    · replace hf := g_ip h hf
      refine g_iload (pc' := 187) C 3 d_Mo_shift_185 rfl rfl ?_
      replace hf := g_o2 hf; obtain ⟨h1, hf⟩ := hf; subst h1
      replace hf := g_o2 hf; obtain ⟨h1, hf⟩ := hf; subst h1
      replace hf := Option.some.inj hf; subst hf
      exact g_iret C d_Mo_shift_187 () rfl
    · replace hf := g_in h hf
      refine g_aload_n (pc' := 158) C 0 d_Mo_shift_157 rfl rfl ?_
      refine g_get (pc' := 161) C kf_Mo 56 mw_4_194 d_Mo_shift_158 rfl 0 rfl (by decide) rfl ?_
      refine g_bipush (pc' := 163) (v := 60) C d_Mo_shift_161 rfl rfl ?_
      refine g_iload_n (pc' := 164) C 1 d_Mo_shift_163 rfl rfl ?_
      refine g_imul (pc' := 165) C d_Mo_shift_164 rfl ?_
      refine g_iload (pc' := 167) C 2 d_Mo_shift_165 rfl rfl ?_
      refine g_iadd (pc' := 168) C d_Mo_shift_167 rfl ?_
      refine g_iload (pc' := 170) C 4 d_Mo_shift_168 rfl rfl ?_
      refine g_iadd (pc' := 171) C d_Mo_shift_170 rfl ?_
      refine g_aload_n (pc' := 172) C 0 d_Mo_shift_171 rfl rfl ?_
      refine g_get (pc' := 175) C kf_Mo 57 mw_4_195 d_Mo_shift_172 rfl 0 rfl (by decide) rfl ?_
      refine g_iload (pc' := 177) C 4 d_Mo_shift_175 rfl rfl ?_
      have hb := g_ck hf
      replace hf := g_in hb hf
      refine g_lald (pc' := 178) C d_Mo_shift_177 rfl 4 rfl hb ?_
      have hb := g_ck hf
      replace hf := g_in hb hf
      refine g_last (pc' := 179) (ws' := [O_Mo a_o x_o_code x_o_lamps x_o_at x_o_night x_o_spent x_o_rest x_o_shy a_o_had a_o_told a_o_barred a_o_cost a_o_last a_o_often x_o_hasBegun x_o_doneMany x_o_undoneMany a_o_changeOf a_o_changeAt a_o_before a_o_behind a_o_tape x_o_taped x_o_here x_o_fault x_o_open x_o_laid a_o_act a_o_with a_o_lineMany a_o_testEnd a_o_lineEnd a_o_facts a_o_pile x_o_hasLaw a_o_way a_o_bestWay x_o_bestMany a_o_wasHad a_o_wasLast x_o_wasAt x_o_wasNight x_o_hasImage x_o_keptLamps x_o_keptAt x_o_keptNight x_o_keptSpent a_o_keptHad a_o_keptTold a_o_keptLast a_o_keptOften x_o_bodies a_o_kind x_o_traces a_o_traced a_o_holds a_o_size a_o_elements a_o_shifted, A_I dA a_o_holds 6 x_o_holds, A_I dA a_o_size 6 x_o_size, A_J dA a_o_elements 360 (vp_updL x_o_elements (Int32.toNatClampNeg ((((60 : Int32) * v3) + v4) + v6)) (x_o_shifted (Int32.toNatClampNeg v6))), A_J dA a_o_shifted 60 x_o_shifted]) C d_Mo_shift_178 rfl 3 rfl hb rfl ?_
      refine g_iinc (pc' := 182) (j := 4) (v := (v6 + 1)) (lv' := [(6, .int (v6 + 1)), (0, .ref a_o), (3, .int v3), (4, .int v4), (5, .int v5)]) C d_Mo_shift_179 rfl rfl rfl (by decide) rfl ?_
      refine g_goto (tgt := 150) C d_Mo_shift_182 rfl ?_
      refine g_lv (lv' := [(0, .ref a_o), (3, .int v3), (4, .int v4), (5, .int v5), (6, .int (v6 + 1))]) [1, 2, 3, 4, 0] rfl ?_
      exact ih v3 v4 v5 (v6 + 1) (vp_updL x_o_elements (Int32.toNatClampNeg ((((60 : Int32) * v3) + v4) + v6)) (x_o_shifted (Int32.toNatClampNeg v6))) x_o_shifted hf
def f_Mo_shift_L113   : Nat → Int32 → Int32 → Int32 → Int32 → Int32 → Int32 → (Nat → Int64) → (Nat → Int64) → Option (Int32 × (Nat → Int64) × (Nat → Int64))
  | 0, _, _, _, _, _, _, _, _ => none
  | n + 1, v1, v2, v3, v4, v5, v6, x_o_elements, x_o_shifted =>
    if v5 ≤ v6 then
      (f_Mo_shift_L150  3000 v3 v4 v5 (0 : Int32) x_o_elements x_o_shifted)
    else
      (if ((((60 : Int32) * v1) + v2) + v6) < 0 ∨ 360 ≤ Int32.toNatClampNeg ((((60 : Int32) * v1) + v2) + v6) then none else
      if v6 < 0 ∨ 60 ≤ Int32.toNatClampNeg v6 then none else
      f_Mo_shift_L113  n v1 v2 v3 v4 v5 (v6 + 1) x_o_elements (vp_updL x_o_shifted (Int32.toNatClampNeg v6) (x_o_elements (Int32.toNatClampNeg ((((60 : Int32) * v1) + v2) + v6)))))
set_option maxRecDepth 20000 in
theorem w_Mo_shift_L113 {p : Program} {l : Launch} {e : Env} {s : State} {m : MethodId} {args : Array Value} {below : List Frame} {meth : Method} {c : Code} {D : va_G} {dA : Nat → ClassId} {A : Nat → Prop} (C : GC p s m args meth c prog_13_method_100_code 7 "OneLampModel" (some .int) D dA A) {a_o a_o_had a_o_told a_o_barred a_o_cost a_o_last a_o_often a_o_changeOf a_o_changeAt a_o_before a_o_behind a_o_tape a_o_act a_o_with a_o_lineMany a_o_testEnd a_o_lineEnd a_o_facts a_o_pile a_o_way a_o_bestWay a_o_wasHad a_o_wasLast a_o_keptHad a_o_keptTold a_o_keptLast a_o_keptOften a_o_kind a_o_traced a_o_holds a_o_size a_o_elements a_o_shifted : Nat} {x_o_code : Int32} {x_o_lamps : Int32} {x_o_at : Int32} {x_o_night : Int32} {x_o_spent : Int32} {x_o_rest : Int32} {x_o_shy : Int32} {x_o_hasBegun : Bool} {x_o_doneMany : Int32} {x_o_undoneMany : Int32} {x_o_taped : Int32} {x_o_here : Int32} {x_o_fault : Int32} {x_o_open : Int32} {x_o_laid : Int32} {x_o_hasLaw : Bool} {x_o_bestMany : Int32} {x_o_wasAt : Int32} {x_o_wasNight : Int32} {x_o_hasImage : Bool} {x_o_keptLamps : Int32} {x_o_keptAt : Int32} {x_o_keptNight : Int32} {x_o_keptSpent : Int32} {x_o_bodies : Int32} {x_o_traces : Int32} {x_o_holds : Nat → Int32} {x_o_size : Nat → Int32} {r0 : Int32} {o_x_o_elements : Nat → Int64} {o_x_o_shifted : Nat → Int64}    : ∀ (n : Nat) (v1 : Int32) (v2 : Int32) (v3 : Int32) (v4 : Int32) (v5 : Int32) (v6 : Int32) (x_o_elements : Nat → Int64) (x_o_shifted : Nat → Int64), f_Mo_shift_L113   n v1 v2 v3 v4 v5 v6 x_o_elements x_o_shifted = some (r0, o_x_o_elements, o_x_o_shifted) → GG p l e { frames := 2, cells := 0, slots := 0, locals := 42 } s m args below meth c 7 D A 0 0 (MQ below (cQ D A (some (.int r0)) (fun _ : Unit => [O_Mo a_o x_o_code x_o_lamps x_o_at x_o_night x_o_spent x_o_rest x_o_shy a_o_had a_o_told a_o_barred a_o_cost a_o_last a_o_often x_o_hasBegun x_o_doneMany x_o_undoneMany a_o_changeOf a_o_changeAt a_o_before a_o_behind a_o_tape x_o_taped x_o_here x_o_fault x_o_open x_o_laid a_o_act a_o_with a_o_lineMany a_o_testEnd a_o_lineEnd a_o_facts a_o_pile x_o_hasLaw a_o_way a_o_bestWay x_o_bestMany a_o_wasHad a_o_wasLast x_o_wasAt x_o_wasNight x_o_hasImage x_o_keptLamps x_o_keptAt x_o_keptNight x_o_keptSpent a_o_keptHad a_o_keptTold a_o_keptLast a_o_keptOften x_o_bodies a_o_kind x_o_traces a_o_traced a_o_holds a_o_size a_o_elements a_o_shifted, A_I dA a_o_holds 6 x_o_holds, A_I dA a_o_size 6 x_o_size, A_J dA a_o_elements 360 o_x_o_elements, A_J dA a_o_shifted 60 o_x_o_shifted])) args s 0 0 A) 113 [(0, .ref a_o), (1, .int v1), (2, .int v2), (3, .int v3), (4, .int v4), (5, .int v5), (6, .int v6)] [] [O_Mo a_o x_o_code x_o_lamps x_o_at x_o_night x_o_spent x_o_rest x_o_shy a_o_had a_o_told a_o_barred a_o_cost a_o_last a_o_often x_o_hasBegun x_o_doneMany x_o_undoneMany a_o_changeOf a_o_changeAt a_o_before a_o_behind a_o_tape x_o_taped x_o_here x_o_fault x_o_open x_o_laid a_o_act a_o_with a_o_lineMany a_o_testEnd a_o_lineEnd a_o_facts a_o_pile x_o_hasLaw a_o_way a_o_bestWay x_o_bestMany a_o_wasHad a_o_wasLast x_o_wasAt x_o_wasNight x_o_hasImage x_o_keptLamps x_o_keptAt x_o_keptNight x_o_keptSpent a_o_keptHad a_o_keptTold a_o_keptLast a_o_keptOften x_o_bodies a_o_kind x_o_traces a_o_traced a_o_holds a_o_size a_o_elements a_o_shifted, A_I dA a_o_holds 6 x_o_holds, A_I dA a_o_size 6 x_o_size, A_J dA a_o_elements 360 x_o_elements, A_J dA a_o_shifted 60 x_o_shifted] := by
  intro n
  induction n with
  | zero =>
    intro v1 v2 v3 v4 v5 v6 x_o_elements x_o_shifted hf
    cases hf
  | succ n ih =>
    intro v1 v2 v3 v4 v5 v6 x_o_elements x_o_shifted hf
    unfold f_Mo_shift_L113 at hf
    refine g_iload (pc' := 115) C 6 d_Mo_shift_113 rfl rfl ?_
    refine g_iload (pc' := 117) C 5 d_Mo_shift_115 rfl rfl ?_
    refine g_icmp_ge (pc' := 120) (tgt := 147) C d_Mo_shift_117 rfl rfl (fun h => ?_) (fun h => ?_)
    · replace hf := g_ip h hf
      refine g_iconst (pc' := 148) (v := 0) C d_Mo_shift_147 rfl rfl ?_
      refine g_istore (pc' := 150) (lv' := [(6, .int 0), (0, .ref a_o), (1, .int v1), (2, .int v2), (3, .int v3), (4, .int v4), (5, .int v5)]) C d_Mo_shift_148 rfl (by decide) rfl ?_
      refine g_lv (lv' := [(0, .ref a_o), (3, .int v3), (4, .int v4), (5, .int v5), (6, .int (0 : Int32))]) [1, 4, 5, 6, 0] rfl ?_
      exact w_Mo_shift_L150 (a_o := a_o) (a_o_had := a_o_had) (a_o_told := a_o_told) (a_o_barred := a_o_barred) (a_o_cost := a_o_cost) (a_o_last := a_o_last) (a_o_often := a_o_often) (a_o_changeOf := a_o_changeOf) (a_o_changeAt := a_o_changeAt) (a_o_before := a_o_before) (a_o_behind := a_o_behind) (a_o_tape := a_o_tape) (a_o_act := a_o_act) (a_o_with := a_o_with) (a_o_lineMany := a_o_lineMany) (a_o_testEnd := a_o_testEnd) (a_o_lineEnd := a_o_lineEnd) (a_o_facts := a_o_facts) (a_o_pile := a_o_pile) (a_o_way := a_o_way) (a_o_bestWay := a_o_bestWay) (a_o_wasHad := a_o_wasHad) (a_o_wasLast := a_o_wasLast) (a_o_keptHad := a_o_keptHad) (a_o_keptTold := a_o_keptTold) (a_o_keptLast := a_o_keptLast) (a_o_keptOften := a_o_keptOften) (a_o_kind := a_o_kind) (a_o_traced := a_o_traced) (a_o_holds := a_o_holds) (a_o_size := a_o_size) (a_o_elements := a_o_elements) (a_o_shifted := a_o_shifted) C   3000 v3 v4 v5 (0 : Int32) x_o_elements x_o_shifted hf
    · replace hf := g_in h hf
      refine g_aload_n (pc' := 121) C 0 d_Mo_shift_120 rfl rfl ?_
      refine g_get (pc' := 124) C kf_Mo 57 mw_4_195 d_Mo_shift_121 rfl 0 rfl (by decide) rfl ?_
      refine g_iload (pc' := 126) C 6 d_Mo_shift_124 rfl rfl ?_
      refine g_aload_n (pc' := 127) C 0 d_Mo_shift_126 rfl rfl ?_
      refine g_get (pc' := 130) C kf_Mo 56 mw_4_194 d_Mo_shift_127 rfl 0 rfl (by decide) rfl ?_
      refine g_bipush (pc' := 132) (v := 60) C d_Mo_shift_130 rfl rfl ?_
      refine g_iload_n (pc' := 133) C 1 d_Mo_shift_132 rfl rfl ?_
      refine g_imul (pc' := 134) C d_Mo_shift_133 rfl ?_
      refine g_iload_n (pc' := 135) C 2 d_Mo_shift_134 rfl rfl ?_
      refine g_iadd (pc' := 136) C d_Mo_shift_135 rfl ?_
      refine g_iload (pc' := 138) C 6 d_Mo_shift_136 rfl rfl ?_
      refine g_iadd (pc' := 139) C d_Mo_shift_138 rfl ?_
      have hb := g_ck hf
      replace hf := g_in hb hf
      refine g_lald (pc' := 140) C d_Mo_shift_139 rfl 3 rfl hb ?_
      have hb := g_ck hf
      replace hf := g_in hb hf
      refine g_last (pc' := 141) (ws' := [O_Mo a_o x_o_code x_o_lamps x_o_at x_o_night x_o_spent x_o_rest x_o_shy a_o_had a_o_told a_o_barred a_o_cost a_o_last a_o_often x_o_hasBegun x_o_doneMany x_o_undoneMany a_o_changeOf a_o_changeAt a_o_before a_o_behind a_o_tape x_o_taped x_o_here x_o_fault x_o_open x_o_laid a_o_act a_o_with a_o_lineMany a_o_testEnd a_o_lineEnd a_o_facts a_o_pile x_o_hasLaw a_o_way a_o_bestWay x_o_bestMany a_o_wasHad a_o_wasLast x_o_wasAt x_o_wasNight x_o_hasImage x_o_keptLamps x_o_keptAt x_o_keptNight x_o_keptSpent a_o_keptHad a_o_keptTold a_o_keptLast a_o_keptOften x_o_bodies a_o_kind x_o_traces a_o_traced a_o_holds a_o_size a_o_elements a_o_shifted, A_I dA a_o_holds 6 x_o_holds, A_I dA a_o_size 6 x_o_size, A_J dA a_o_elements 360 x_o_elements, A_J dA a_o_shifted 60 (vp_updL x_o_shifted (Int32.toNatClampNeg v6) (x_o_elements (Int32.toNatClampNeg ((((60 : Int32) * v1) + v2) + v6))))]) C d_Mo_shift_140 rfl 4 rfl hb rfl ?_
      refine g_iinc (pc' := 144) (j := 6) (v := (v6 + 1)) (lv' := [(6, .int (v6 + 1)), (0, .ref a_o), (1, .int v1), (2, .int v2), (3, .int v3), (4, .int v4), (5, .int v5)]) C d_Mo_shift_141 rfl rfl rfl (by decide) rfl ?_
      refine g_goto (tgt := 113) C d_Mo_shift_144 rfl ?_
      refine g_lv (lv' := [(0, .ref a_o), (1, .int v1), (2, .int v2), (3, .int v3), (4, .int v4), (5, .int v5), (6, .int (v6 + 1))]) [1, 2, 3, 4, 5, 6, 0] rfl ?_
      exact ih v1 v2 v3 v4 v5 (v6 + 1) x_o_elements (vp_updL x_o_shifted (Int32.toNatClampNeg v6) (x_o_elements (Int32.toNatClampNeg ((((60 : Int32) * v1) + v2) + v6)))) hf
def f_Mo_shift  (p1 : Int32) (p2 : Int32) (p3 : Int32) (p4 : Int32) (p5 : Int32) (x_o_holds : Nat → Int32) (x_o_size : Nat → Int32) (x_o_elements : Nat → Int64) (x_o_shifted : Nat → Int64) : Option (Int32 × (Nat → Int64) × (Nat → Int64)) :=
  (f_Mo_isShelf  p1).bind fun r1 =>
  if r1 = true then
    ((f_Mo_isShelf  p3).bind fun r3 =>
    if r3 = true then
      (if p1 < 0 ∨ 6 ≤ Int32.toNatClampNeg p1 then none else
      if (x_o_holds (Int32.toNatClampNeg p1)) = (-1 : Int32) then
        (some ((-11 : Int32), x_o_elements, x_o_shifted))
      else
        (if p3 < 0 ∨ 6 ≤ Int32.toNatClampNeg p3 then none else
        if (x_o_holds (Int32.toNatClampNeg p3)) = (-1 : Int32) then
          (some ((-11 : Int32), x_o_elements, x_o_shifted))
        else
          (if p1 < 0 ∨ 6 ≤ Int32.toNatClampNeg p1 then none else
          if 0 ≤ (x_o_holds (Int32.toNatClampNeg p1)) then
            (some ((-12 : Int32), x_o_elements, x_o_shifted))
          else
            (if p1 < 0 ∨ 6 ≤ Int32.toNatClampNeg p1 then none else
            if p3 < 0 ∨ 6 ≤ Int32.toNatClampNeg p3 then none else
            if (x_o_holds (Int32.toNatClampNeg p1)) = (x_o_holds (Int32.toNatClampNeg p3)) then
              (if p5 < 0 then
                (some ((-13 : Int32), x_o_elements, x_o_shifted))
              else
                (if p2 < 0 then
                  (some ((-13 : Int32), x_o_elements, x_o_shifted))
                else
                  (if p4 < 0 then
                    (some ((-13 : Int32), x_o_elements, x_o_shifted))
                  else
                    (if p1 < 0 ∨ 6 ≤ Int32.toNatClampNeg p1 then none else
                    if ((x_o_size (Int32.toNatClampNeg p1)) - p5) < p2 then
                      (some ((-13 : Int32), x_o_elements, x_o_shifted))
                    else
                      (if p3 < 0 ∨ 6 ≤ Int32.toNatClampNeg p3 then none else
                      if p4 ≤ ((x_o_size (Int32.toNatClampNeg p3)) - p5) then
                        (f_Mo_shift_L113  3000 p1 p2 p3 p4 p5 (0 : Int32) x_o_elements x_o_shifted)
                      else
                        (some ((-13 : Int32), x_o_elements, x_o_shifted)))))))
            else
              (some ((-12 : Int32), x_o_elements, x_o_shifted))))))
    else
      (some ((-1 : Int32), x_o_elements, x_o_shifted)))
  else
    (some ((-1 : Int32), x_o_elements, x_o_shifted))
set_option maxRecDepth 20000 in
theorem c_Mo_shift {l : Launch} {D : va_G} {dA : Nat → ClassId} {a_o a_o_had a_o_told a_o_barred a_o_cost a_o_last a_o_often a_o_changeOf a_o_changeAt a_o_before a_o_behind a_o_tape a_o_act a_o_with a_o_lineMany a_o_testEnd a_o_lineEnd a_o_facts a_o_pile a_o_way a_o_bestWay a_o_wasHad a_o_wasLast a_o_keptHad a_o_keptTold a_o_keptLast a_o_keptOften a_o_kind a_o_traced a_o_holds a_o_size a_o_elements a_o_shifted : Nat} {x_o_code : Int32} {x_o_lamps : Int32} {x_o_at : Int32} {x_o_night : Int32} {x_o_spent : Int32} {x_o_rest : Int32} {x_o_shy : Int32} {x_o_hasBegun : Bool} {x_o_doneMany : Int32} {x_o_undoneMany : Int32} {x_o_taped : Int32} {x_o_here : Int32} {x_o_fault : Int32} {x_o_open : Int32} {x_o_laid : Int32} {x_o_hasLaw : Bool} {x_o_bestMany : Int32} {x_o_wasAt : Int32} {x_o_wasNight : Int32} {x_o_hasImage : Bool} {x_o_keptLamps : Int32} {x_o_keptAt : Int32} {x_o_keptNight : Int32} {x_o_keptSpent : Int32} {x_o_bodies : Int32} {x_o_traces : Int32} {p1 : Int32} {p2 : Int32} {p3 : Int32} {p4 : Int32} {p5 : Int32} {x_o_holds : Nat → Int32} {x_o_size : Nat → Int32} {x_o_elements : Nat → Int64} {x_o_shifted : Nat → Int64} {r0 : Int32} {o_x_o_elements : Nat → Int64} {o_x_o_shifted : Nat → Int64}   (hf : f_Mo_shift  p1 p2 p3 p4 p5 x_o_holds x_o_size x_o_elements x_o_shifted = some (r0, o_x_o_elements, o_x_o_shifted)) : CT l y_Mo_shift prog_13_method_100_code 7 (some .int) { frames := 2, cells := 0, slots := 0, locals := 42 } D dA [.ref a_o, .int p1, .int p2, .int p3, .int p4, .int p5] [O_Mo a_o x_o_code x_o_lamps x_o_at x_o_night x_o_spent x_o_rest x_o_shy a_o_had a_o_told a_o_barred a_o_cost a_o_last a_o_often x_o_hasBegun x_o_doneMany x_o_undoneMany a_o_changeOf a_o_changeAt a_o_before a_o_behind a_o_tape x_o_taped x_o_here x_o_fault x_o_open x_o_laid a_o_act a_o_with a_o_lineMany a_o_testEnd a_o_lineEnd a_o_facts a_o_pile x_o_hasLaw a_o_way a_o_bestWay x_o_bestMany a_o_wasHad a_o_wasLast x_o_wasAt x_o_wasNight x_o_hasImage x_o_keptLamps x_o_keptAt x_o_keptNight x_o_keptSpent a_o_keptHad a_o_keptTold a_o_keptLast a_o_keptOften x_o_bodies a_o_kind x_o_traces a_o_traced a_o_holds a_o_size a_o_elements a_o_shifted, A_I dA a_o_holds 6 x_o_holds, A_I dA a_o_size 6 x_o_size, A_J dA a_o_elements 360 x_o_elements, A_J dA a_o_shifted 60 x_o_shifted] (some (.int r0)) (fun _ : Unit => [O_Mo a_o x_o_code x_o_lamps x_o_at x_o_night x_o_spent x_o_rest x_o_shy a_o_had a_o_told a_o_barred a_o_cost a_o_last a_o_often x_o_hasBegun x_o_doneMany x_o_undoneMany a_o_changeOf a_o_changeAt a_o_before a_o_behind a_o_tape x_o_taped x_o_here x_o_fault x_o_open x_o_laid a_o_act a_o_with a_o_lineMany a_o_testEnd a_o_lineEnd a_o_facts a_o_pile x_o_hasLaw a_o_way a_o_bestWay x_o_bestMany a_o_wasHad a_o_wasLast x_o_wasAt x_o_wasNight x_o_hasImage x_o_keptLamps x_o_keptAt x_o_keptNight x_o_keptSpent a_o_keptHad a_o_keptTold a_o_keptLast a_o_keptOften x_o_bodies a_o_kind x_o_traces a_o_traced a_o_holds a_o_size a_o_elements a_o_shifted, A_I dA a_o_holds 6 x_o_holds, A_I dA a_o_size 6 x_o_size, A_J dA a_o_elements 360 o_x_o_elements, A_J dA a_o_shifted 60 o_x_o_shifted]) := by
  refine ct_intro "OneLampModel" rfl (by decide +kernel) (Nat.le_of_ble_eq_true rfl) [(0, .ref a_o), (1, .int p1), (2, .int p2), (3, .int p3), (4, .int p4), (5, .int p5)] rfl (fun _ C => ?_)
  unfold f_Mo_shift at hf
  refine g_iload_n (pc' := 1) C 1 d_Mo_shift_0 rfl rfl ?_
  replace hf := g_bi hf; obtain ⟨r1, hc2, hf⟩ := hf
  refine g_callS (pc' := 4) (st1 := [.int (b2i r1)]) (ws1 := [O_Mo a_o x_o_code x_o_lamps x_o_at x_o_night x_o_spent x_o_rest x_o_shy a_o_had a_o_told a_o_barred a_o_cost a_o_last a_o_often x_o_hasBegun x_o_doneMany x_o_undoneMany a_o_changeOf a_o_changeAt a_o_before a_o_behind a_o_tape x_o_taped x_o_here x_o_fault x_o_open x_o_laid a_o_act a_o_with a_o_lineMany a_o_testEnd a_o_lineEnd a_o_facts a_o_pile x_o_hasLaw a_o_way a_o_bestWay x_o_bestMany a_o_wasHad a_o_wasLast x_o_wasAt x_o_wasNight x_o_hasImage x_o_keptLamps x_o_keptAt x_o_keptNight x_o_keptSpent a_o_keptHad a_o_keptTold a_o_keptLast a_o_keptOften x_o_bodies a_o_kind x_o_traces a_o_traced a_o_holds a_o_size a_o_elements a_o_shifted, A_I dA a_o_holds 6 x_o_holds, A_I dA a_o_size 6 x_o_size, A_J dA a_o_elements 360 x_o_elements, A_J dA a_o_shifted 60 x_o_shifted]) C (c_Mo_isShelf (l := l) (D := D) (dA := dA)    hc2) yy_Mo_isShelf mw_5_107 d_Mo_shift_1 rfl [] rfl rfl (Nat.le_of_ble_eq_true rfl) ⟨Nat.le_of_ble_eq_true rfl, Nat.le_of_ble_eq_true rfl⟩ rfl rfl (Nat.zero_le _) (Nat.zero_le _) [] rfl (by decide +kernel) rfl (g_lay_sel _ _ _ _ [(0, false), (1, false), (2, false), (3, false), (4, false)] (by decide +kernel) rfl (by decide +kernel) rfl rfl) rfl ?_
  refine g_if_eqb (pc' := 7) (tgt := 14) C d_Mo_shift_4 rfl rfl (fun h => ?_) (fun h => ?_)
  · replace hf := g_bf h hf
    refine g_iconst (pc' := 15) (v := (-1)) C d_Mo_shift_14 rfl rfl ?_
    replace hf := g_o2 hf; obtain ⟨h1, hf⟩ := hf; subst h1
    replace hf := g_o2 hf; obtain ⟨h1, hf⟩ := hf; subst h1
    replace hf := Option.some.inj hf; subst hf
    exact g_iret C d_Mo_shift_15 () rfl
  · replace hf := g_bt h hf
    refine g_iload_n (pc' := 8) C 3 d_Mo_shift_7 rfl rfl ?_
    replace hf := g_bi hf; obtain ⟨r3, hc4, hf⟩ := hf
    refine g_callS (pc' := 11) (st1 := [.int (b2i r3)]) (ws1 := [O_Mo a_o x_o_code x_o_lamps x_o_at x_o_night x_o_spent x_o_rest x_o_shy a_o_had a_o_told a_o_barred a_o_cost a_o_last a_o_often x_o_hasBegun x_o_doneMany x_o_undoneMany a_o_changeOf a_o_changeAt a_o_before a_o_behind a_o_tape x_o_taped x_o_here x_o_fault x_o_open x_o_laid a_o_act a_o_with a_o_lineMany a_o_testEnd a_o_lineEnd a_o_facts a_o_pile x_o_hasLaw a_o_way a_o_bestWay x_o_bestMany a_o_wasHad a_o_wasLast x_o_wasAt x_o_wasNight x_o_hasImage x_o_keptLamps x_o_keptAt x_o_keptNight x_o_keptSpent a_o_keptHad a_o_keptTold a_o_keptLast a_o_keptOften x_o_bodies a_o_kind x_o_traces a_o_traced a_o_holds a_o_size a_o_elements a_o_shifted, A_I dA a_o_holds 6 x_o_holds, A_I dA a_o_size 6 x_o_size, A_J dA a_o_elements 360 x_o_elements, A_J dA a_o_shifted 60 x_o_shifted]) C (c_Mo_isShelf (l := l) (D := D) (dA := dA)    hc4) yy_Mo_isShelf mw_5_107 d_Mo_shift_8 rfl [] rfl rfl (Nat.le_of_ble_eq_true rfl) ⟨Nat.le_of_ble_eq_true rfl, Nat.le_of_ble_eq_true rfl⟩ rfl rfl (Nat.zero_le _) (Nat.zero_le _) [] rfl (by decide +kernel) rfl (g_lay_sel _ _ _ _ [(0, false), (1, false), (2, false), (3, false), (4, false)] (by decide +kernel) rfl (by decide +kernel) rfl rfl) rfl ?_
    refine g_if_neb (pc' := 14) (tgt := 16) C d_Mo_shift_11 rfl rfl (fun h => ?_) (fun h => ?_)
    · replace hf := g_bt h hf
      refine g_aload_n (pc' := 17) C 0 d_Mo_shift_16 rfl rfl ?_
      refine g_get (pc' := 20) C kf_Mo 54 mw_4_192 d_Mo_shift_17 rfl 0 rfl (by decide) rfl ?_
      refine g_iload_n (pc' := 21) C 1 d_Mo_shift_20 rfl rfl ?_
      have hb := g_ck hf
      replace hf := g_in hb hf
      refine g_iald (pc' := 22) C d_Mo_shift_21 rfl 1 rfl hb ?_
      refine g_iconst (pc' := 23) (v := (-1)) C d_Mo_shift_22 rfl rfl ?_
      refine g_icmp_eq (pc' := 26) (tgt := 36) C d_Mo_shift_23 rfl rfl (fun h => ?_) (fun h => ?_)
      · replace hf := g_ip h hf
        refine g_bipush (pc' := 38) (v := (-11)) C d_Mo_shift_36 rfl rfl ?_
        replace hf := g_o2 hf; obtain ⟨h1, hf⟩ := hf; subst h1
        replace hf := g_o2 hf; obtain ⟨h1, hf⟩ := hf; subst h1
        replace hf := Option.some.inj hf; subst hf
        exact g_iret C d_Mo_shift_38 () rfl
      · replace hf := g_in h hf
        refine g_aload_n (pc' := 27) C 0 d_Mo_shift_26 rfl rfl ?_
        refine g_get (pc' := 30) C kf_Mo 54 mw_4_192 d_Mo_shift_27 rfl 0 rfl (by decide) rfl ?_
        refine g_iload_n (pc' := 31) C 3 d_Mo_shift_30 rfl rfl ?_
        have hb := g_ck hf
        replace hf := g_in hb hf
        refine g_iald (pc' := 32) C d_Mo_shift_31 rfl 1 rfl hb ?_
        refine g_iconst (pc' := 33) (v := (-1)) C d_Mo_shift_32 rfl rfl ?_
        refine g_icmp_ne (pc' := 36) (tgt := 39) C d_Mo_shift_33 rfl rfl (fun h => ?_) (fun h => ?_)
        · replace hf := g_in h hf
          refine g_aload_n (pc' := 40) C 0 d_Mo_shift_39 rfl rfl ?_
          refine g_get (pc' := 43) C kf_Mo 54 mw_4_192 d_Mo_shift_40 rfl 0 rfl (by decide) rfl ?_
          refine g_iload_n (pc' := 44) C 1 d_Mo_shift_43 rfl rfl ?_
          have hb := g_ck hf
          replace hf := g_in hb hf
          refine g_iald (pc' := 45) C d_Mo_shift_44 rfl 1 rfl hb ?_
          refine g_if_ge (pc' := 48) (tgt := 63) C d_Mo_shift_45 rfl rfl (fun h => ?_) (fun h => ?_)
          · replace hf := g_ip h hf
            refine g_bipush (pc' := 65) (v := (-12)) C d_Mo_shift_63 rfl rfl ?_
            replace hf := g_o2 hf; obtain ⟨h1, hf⟩ := hf; subst h1
            replace hf := g_o2 hf; obtain ⟨h1, hf⟩ := hf; subst h1
            replace hf := Option.some.inj hf; subst hf
            exact g_iret C d_Mo_shift_65 () rfl
          · replace hf := g_in h hf
            refine g_aload_n (pc' := 49) C 0 d_Mo_shift_48 rfl rfl ?_
            refine g_get (pc' := 52) C kf_Mo 54 mw_4_192 d_Mo_shift_49 rfl 0 rfl (by decide) rfl ?_
            refine g_iload_n (pc' := 53) C 1 d_Mo_shift_52 rfl rfl ?_
            have hb := g_ck hf
            replace hf := g_in hb hf
            refine g_iald (pc' := 54) C d_Mo_shift_53 rfl 1 rfl hb ?_
            refine g_aload_n (pc' := 55) C 0 d_Mo_shift_54 rfl rfl ?_
            refine g_get (pc' := 58) C kf_Mo 54 mw_4_192 d_Mo_shift_55 rfl 0 rfl (by decide) rfl ?_
            refine g_iload_n (pc' := 59) C 3 d_Mo_shift_58 rfl rfl ?_
            have hb := g_ck hf
            replace hf := g_in hb hf
            refine g_iald (pc' := 60) C d_Mo_shift_59 rfl 1 rfl hb ?_
            refine g_icmp_eq (pc' := 63) (tgt := 66) C d_Mo_shift_60 rfl rfl (fun h => ?_) (fun h => ?_)
            · replace hf := g_ip h hf
              refine g_iload (pc' := 68) C 5 d_Mo_shift_66 rfl rfl ?_
              refine g_if_lt (pc' := 71) (tgt := 107) C d_Mo_shift_68 rfl rfl (fun h => ?_) (fun h => ?_)
              · replace hf := g_ip h hf
                refine g_bipush (pc' := 109) (v := (-13)) C d_Mo_shift_107 rfl rfl ?_
                replace hf := g_o2 hf; obtain ⟨h1, hf⟩ := hf; subst h1
                replace hf := g_o2 hf; obtain ⟨h1, hf⟩ := hf; subst h1
                replace hf := Option.some.inj hf; subst hf
                exact g_iret C d_Mo_shift_109 () rfl
              · replace hf := g_in h hf
                refine g_iload_n (pc' := 72) C 2 d_Mo_shift_71 rfl rfl ?_
                refine g_if_lt (pc' := 75) (tgt := 107) C d_Mo_shift_72 rfl rfl (fun h => ?_) (fun h => ?_)
                · replace hf := g_ip h hf
                  refine g_bipush (pc' := 109) (v := (-13)) C d_Mo_shift_107 rfl rfl ?_
                  replace hf := g_o2 hf; obtain ⟨h1, hf⟩ := hf; subst h1
                  replace hf := g_o2 hf; obtain ⟨h1, hf⟩ := hf; subst h1
                  replace hf := Option.some.inj hf; subst hf
                  exact g_iret C d_Mo_shift_109 () rfl
                · replace hf := g_in h hf
                  refine g_iload (pc' := 77) C 4 d_Mo_shift_75 rfl rfl ?_
                  refine g_if_lt (pc' := 80) (tgt := 107) C d_Mo_shift_77 rfl rfl (fun h => ?_) (fun h => ?_)
                  · replace hf := g_ip h hf
                    refine g_bipush (pc' := 109) (v := (-13)) C d_Mo_shift_107 rfl rfl ?_
                    replace hf := g_o2 hf; obtain ⟨h1, hf⟩ := hf; subst h1
                    replace hf := g_o2 hf; obtain ⟨h1, hf⟩ := hf; subst h1
                    replace hf := Option.some.inj hf; subst hf
                    exact g_iret C d_Mo_shift_109 () rfl
                  · replace hf := g_in h hf
                    refine g_iload_n (pc' := 81) C 2 d_Mo_shift_80 rfl rfl ?_
                    refine g_aload_n (pc' := 82) C 0 d_Mo_shift_81 rfl rfl ?_
                    refine g_get (pc' := 85) C kf_Mo 55 mw_4_193 d_Mo_shift_82 rfl 0 rfl (by decide) rfl ?_
                    refine g_iload_n (pc' := 86) C 1 d_Mo_shift_85 rfl rfl ?_
                    have hb := g_ck hf
                    replace hf := g_in hb hf
                    refine g_iald (pc' := 87) C d_Mo_shift_86 rfl 2 rfl hb ?_
                    refine g_iload (pc' := 89) C 5 d_Mo_shift_87 rfl rfl ?_
                    refine g_isub (pc' := 90) C d_Mo_shift_89 rfl ?_
                    refine g_icmp_gt (pc' := 93) (tgt := 107) C d_Mo_shift_90 rfl rfl (fun h => ?_) (fun h => ?_)
                    · replace hf := g_ip h hf
                      refine g_bipush (pc' := 109) (v := (-13)) C d_Mo_shift_107 rfl rfl ?_
                      replace hf := g_o2 hf; obtain ⟨h1, hf⟩ := hf; subst h1
                      replace hf := g_o2 hf; obtain ⟨h1, hf⟩ := hf; subst h1
                      replace hf := Option.some.inj hf; subst hf
                      exact g_iret C d_Mo_shift_109 () rfl
                    · replace hf := g_in h hf
                      refine g_iload (pc' := 95) C 4 d_Mo_shift_93 rfl rfl ?_
                      refine g_aload_n (pc' := 96) C 0 d_Mo_shift_95 rfl rfl ?_
                      refine g_get (pc' := 99) C kf_Mo 55 mw_4_193 d_Mo_shift_96 rfl 0 rfl (by decide) rfl ?_
                      refine g_iload_n (pc' := 100) C 3 d_Mo_shift_99 rfl rfl ?_
                      have hb := g_ck hf
                      replace hf := g_in hb hf
                      refine g_iald (pc' := 101) C d_Mo_shift_100 rfl 2 rfl hb ?_
                      refine g_iload (pc' := 103) C 5 d_Mo_shift_101 rfl rfl ?_
                      refine g_isub (pc' := 104) C d_Mo_shift_103 rfl ?_
                      refine g_icmp_le (pc' := 107) (tgt := 110) C d_Mo_shift_104 rfl rfl (fun h => ?_) (fun h => ?_)
                      · replace hf := g_ip h hf
                        refine g_iconst (pc' := 111) (v := 0) C d_Mo_shift_110 rfl rfl ?_
                        refine g_istore (pc' := 113) (lv' := [(6, .int 0), (0, .ref a_o), (1, .int p1), (2, .int p2), (3, .int p3), (4, .int p4), (5, .int p5)]) C d_Mo_shift_111 rfl (by decide) rfl ?_
                        refine g_lv (lv' := [(0, .ref a_o), (1, .int p1), (2, .int p2), (3, .int p3), (4, .int p4), (5, .int p5), (6, .int (0 : Int32))]) [1, 2, 3, 4, 5, 6, 0] rfl ?_
                        exact w_Mo_shift_L113 (a_o := a_o) (a_o_had := a_o_had) (a_o_told := a_o_told) (a_o_barred := a_o_barred) (a_o_cost := a_o_cost) (a_o_last := a_o_last) (a_o_often := a_o_often) (a_o_changeOf := a_o_changeOf) (a_o_changeAt := a_o_changeAt) (a_o_before := a_o_before) (a_o_behind := a_o_behind) (a_o_tape := a_o_tape) (a_o_act := a_o_act) (a_o_with := a_o_with) (a_o_lineMany := a_o_lineMany) (a_o_testEnd := a_o_testEnd) (a_o_lineEnd := a_o_lineEnd) (a_o_facts := a_o_facts) (a_o_pile := a_o_pile) (a_o_way := a_o_way) (a_o_bestWay := a_o_bestWay) (a_o_wasHad := a_o_wasHad) (a_o_wasLast := a_o_wasLast) (a_o_keptHad := a_o_keptHad) (a_o_keptTold := a_o_keptTold) (a_o_keptLast := a_o_keptLast) (a_o_keptOften := a_o_keptOften) (a_o_kind := a_o_kind) (a_o_traced := a_o_traced) (a_o_holds := a_o_holds) (a_o_size := a_o_size) (a_o_elements := a_o_elements) (a_o_shifted := a_o_shifted) C   3000 p1 p2 p3 p4 p5 (0 : Int32) x_o_elements x_o_shifted hf
                      · replace hf := g_in h hf
                        refine g_bipush (pc' := 109) (v := (-13)) C d_Mo_shift_107 rfl rfl ?_
                        replace hf := g_o2 hf; obtain ⟨h1, hf⟩ := hf; subst h1
                        replace hf := g_o2 hf; obtain ⟨h1, hf⟩ := hf; subst h1
                        replace hf := Option.some.inj hf; subst hf
                        exact g_iret C d_Mo_shift_109 () rfl
            · replace hf := g_in h hf
              refine g_bipush (pc' := 65) (v := (-12)) C d_Mo_shift_63 rfl rfl ?_
              replace hf := g_o2 hf; obtain ⟨h1, hf⟩ := hf; subst h1
              replace hf := g_o2 hf; obtain ⟨h1, hf⟩ := hf; subst h1
              replace hf := Option.some.inj hf; subst hf
              exact g_iret C d_Mo_shift_65 () rfl
        · replace hf := g_ip h hf
          refine g_bipush (pc' := 38) (v := (-11)) C d_Mo_shift_36 rfl rfl ?_
          replace hf := g_o2 hf; obtain ⟨h1, hf⟩ := hf; subst h1
          replace hf := g_o2 hf; obtain ⟨h1, hf⟩ := hf; subst h1
          replace hf := Option.some.inj hf; subst hf
          exact g_iret C d_Mo_shift_38 () rfl
    · replace hf := g_bf h hf
      refine g_iconst (pc' := 15) (v := (-1)) C d_Mo_shift_14 rfl rfl ?_
      replace hf := g_o2 hf; obtain ⟨h1, hf⟩ := hf; subst h1
      replace hf := g_o2 hf; obtain ⟨h1, hf⟩ := hf; subst h1
      replace hf := Option.some.inj hf; subst hf
      exact g_iret C d_Mo_shift_15 () rfl
def y_Mo_taken : MethodName := ⟨"OneLampModel", "taken", "(II)I"⟩
theorem yy_Mo_taken : YV y_Mo_taken prog_13_method_101_code 3 (some .int) 2 := ⟨mw_6_226, mw_1_12, mw_6_224, mw_6_225, by decide +kernel, by decide +kernel, by decide +kernel⟩
theorem d_Mo_taken_0 : decode prog_13_method_101_code 0 = .ok (.iload_n 1, 1) := by decide +kernel
theorem d_Mo_taken_1 : decode prog_13_method_101_code 1 = .ok (.invokestatic 146, 3) := by decide +kernel
theorem d_Mo_taken_4 : decode prog_13_method_101_code 4 = .ok (.ifCond .eq 13, 3) := by decide +kernel
theorem d_Mo_taken_7 : decode prog_13_method_101_code 7 = .ok (.iload_n 2, 1) := by decide +kernel
theorem d_Mo_taken_8 : decode prog_13_method_101_code 8 = .ok (.iconst 0, 1) := by decide +kernel
theorem d_Mo_taken_9 : decode prog_13_method_101_code 9 = .ok (.bipush 7, 2) := by decide +kernel
theorem d_Mo_taken_11 : decode prog_13_method_101_code 11 = .ok (.invokestatic 121, 3) := by decide +kernel
theorem d_Mo_taken_14 : decode prog_13_method_101_code 14 = .ok (.ifCond .ne 5, 3) := by decide +kernel
theorem d_Mo_taken_17 : decode prog_13_method_101_code 17 = .ok (.iconst (-1), 1) := by decide +kernel
theorem d_Mo_taken_18 : decode prog_13_method_101_code 18 = .ok (.ireturn, 1) := by decide +kernel
theorem d_Mo_taken_19 : decode prog_13_method_101_code 19 = .ok (.aload_n 0, 1) := by decide +kernel
theorem d_Mo_taken_20 : decode prog_13_method_101_code 20 = .ok (.getfield 101, 3) := by decide +kernel
theorem d_Mo_taken_23 : decode prog_13_method_101_code 23 = .ok (.iload_n 1, 1) := by decide +kernel
theorem d_Mo_taken_24 : decode prog_13_method_101_code 24 = .ok (.iaload, 1) := by decide +kernel
theorem d_Mo_taken_25 : decode prog_13_method_101_code 25 = .ok (.iconst (-1), 1) := by decide +kernel
theorem d_Mo_taken_26 : decode prog_13_method_101_code 26 = .ok (.if_icmp .ne 6, 3) := by decide +kernel
theorem d_Mo_taken_29 : decode prog_13_method_101_code 29 = .ok (.bipush (-11), 2) := by decide +kernel
theorem d_Mo_taken_31 : decode prog_13_method_101_code 31 = .ok (.ireturn, 1) := by decide +kernel
theorem d_Mo_taken_32 : decode prog_13_method_101_code 32 = .ok (.aload_n 0, 1) := by decide +kernel
theorem d_Mo_taken_33 : decode prog_13_method_101_code 33 = .ok (.getfield 101, 3) := by decide +kernel
theorem d_Mo_taken_36 : decode prog_13_method_101_code 36 = .ok (.iload_n 1, 1) := by decide +kernel
theorem d_Mo_taken_37 : decode prog_13_method_101_code 37 = .ok (.iaload, 1) := by decide +kernel
theorem d_Mo_taken_38 : decode prog_13_method_101_code 38 = .ok (.ifCond .lt 35, 3) := by decide +kernel
theorem d_Mo_taken_41 : decode prog_13_method_101_code 41 = .ok (.aload_n 0, 1) := by decide +kernel
theorem d_Mo_taken_42 : decode prog_13_method_101_code 42 = .ok (.getfield 95, 3) := by decide +kernel
theorem d_Mo_taken_45 : decode prog_13_method_101_code 45 = .ok (.aload_n 0, 1) := by decide +kernel
theorem d_Mo_taken_46 : decode prog_13_method_101_code 46 = .ok (.getfield 101, 3) := by decide +kernel
theorem d_Mo_taken_49 : decode prog_13_method_101_code 49 = .ok (.iload_n 1, 1) := by decide +kernel
theorem d_Mo_taken_50 : decode prog_13_method_101_code 50 = .ok (.iaload, 1) := by decide +kernel
theorem d_Mo_taken_51 : decode prog_13_method_101_code 51 = .ok (.iaload, 1) := by decide +kernel
theorem d_Mo_taken_52 : decode prog_13_method_101_code 52 = .ok (.iload_n 2, 1) := by decide +kernel
theorem d_Mo_taken_53 : decode prog_13_method_101_code 53 = .ok (.invokestatic 360, 3) := by decide +kernel
theorem d_Mo_taken_56 : decode prog_13_method_101_code 56 = .ok (.ifCond .eq 17, 3) := by decide +kernel
theorem d_Mo_taken_59 : decode prog_13_method_101_code 59 = .ok (.aload_n 0, 1) := by decide +kernel
theorem d_Mo_taken_60 : decode prog_13_method_101_code 60 = .ok (.getfield 95, 3) := by decide +kernel
theorem d_Mo_taken_63 : decode prog_13_method_101_code 63 = .ok (.aload_n 0, 1) := by decide +kernel
theorem d_Mo_taken_64 : decode prog_13_method_101_code 64 = .ok (.getfield 101, 3) := by decide +kernel
theorem d_Mo_taken_67 : decode prog_13_method_101_code 67 = .ok (.iload_n 1, 1) := by decide +kernel
theorem d_Mo_taken_68 : decode prog_13_method_101_code 68 = .ok (.iaload, 1) := by decide +kernel
theorem d_Mo_taken_69 : decode prog_13_method_101_code 69 = .ok (.iaload, 1) := by decide +kernel
theorem d_Mo_taken_70 : decode prog_13_method_101_code 70 = .ok (.goto 5, 3) := by decide +kernel
theorem d_Mo_taken_73 : decode prog_13_method_101_code 73 = .ok (.bipush (-12), 2) := by decide +kernel
theorem d_Mo_taken_75 : decode prog_13_method_101_code 75 = .ok (.ireturn, 1) := by decide +kernel
def f_Mo_taken  (p1 : Int32) (p2 : Int32) (x_o_holds : Nat → Int32) (x_o_kind : Nat → Int32) : Option (Int32) :=
  (f_Mo_isShelf  p1).bind fun r1 =>
  if r1 = true then
    ((f_Mo_in  p2 (0 : Int32) (7 : Int32)).bind fun r3 =>
    if r3 = true then
      (if p1 < 0 ∨ 6 ≤ Int32.toNatClampNeg p1 then none else
      if (x_o_holds (Int32.toNatClampNeg p1)) = (-1 : Int32) then
        (some ((-11 : Int32)))
      else
        (if p1 < 0 ∨ 6 ≤ Int32.toNatClampNeg p1 then none else
        if (x_o_holds (Int32.toNatClampNeg p1)) < 0 then
          (some ((-12 : Int32)))
        else
          (if p1 < 0 ∨ 6 ≤ Int32.toNatClampNeg p1 then none else
          if (x_o_holds (Int32.toNatClampNeg p1)) < 0 ∨ 50 ≤ Int32.toNatClampNeg (x_o_holds (Int32.toNatClampNeg p1)) then none else
          (f_Mo_isUnder  (x_o_kind (Int32.toNatClampNeg (x_o_holds (Int32.toNatClampNeg p1)))) p2).bind fun r5 =>
          if r5 = true then
            (if p1 < 0 ∨ 6 ≤ Int32.toNatClampNeg p1 then none else
            if (x_o_holds (Int32.toNatClampNeg p1)) < 0 ∨ 50 ≤ Int32.toNatClampNeg (x_o_holds (Int32.toNatClampNeg p1)) then none else
            some ((x_o_kind (Int32.toNatClampNeg (x_o_holds (Int32.toNatClampNeg p1))))))
          else
            (some ((-12 : Int32))))))
    else
      (some ((-1 : Int32))))
  else
    (some ((-1 : Int32)))
set_option maxRecDepth 20000 in
theorem c_Mo_taken {l : Launch} {D : va_G} {dA : Nat → ClassId} {a_o a_o_had a_o_told a_o_barred a_o_cost a_o_last a_o_often a_o_changeOf a_o_changeAt a_o_before a_o_behind a_o_tape a_o_act a_o_with a_o_lineMany a_o_testEnd a_o_lineEnd a_o_facts a_o_pile a_o_way a_o_bestWay a_o_wasHad a_o_wasLast a_o_keptHad a_o_keptTold a_o_keptLast a_o_keptOften a_o_kind a_o_traced a_o_holds a_o_size a_o_elements a_o_shifted : Nat} {x_o_code : Int32} {x_o_lamps : Int32} {x_o_at : Int32} {x_o_night : Int32} {x_o_spent : Int32} {x_o_rest : Int32} {x_o_shy : Int32} {x_o_hasBegun : Bool} {x_o_doneMany : Int32} {x_o_undoneMany : Int32} {x_o_taped : Int32} {x_o_here : Int32} {x_o_fault : Int32} {x_o_open : Int32} {x_o_laid : Int32} {x_o_hasLaw : Bool} {x_o_bestMany : Int32} {x_o_wasAt : Int32} {x_o_wasNight : Int32} {x_o_hasImage : Bool} {x_o_keptLamps : Int32} {x_o_keptAt : Int32} {x_o_keptNight : Int32} {x_o_keptSpent : Int32} {x_o_bodies : Int32} {x_o_traces : Int32} {p1 : Int32} {p2 : Int32} {x_o_holds : Nat → Int32} {x_o_kind : Nat → Int32} {r0 : Int32}   (hf : f_Mo_taken  p1 p2 x_o_holds x_o_kind = some r0) : CT l y_Mo_taken prog_13_method_101_code 3 (some .int) { frames := 2, cells := 0, slots := 0, locals := 42 } D dA [.ref a_o, .int p1, .int p2] [O_Mo a_o x_o_code x_o_lamps x_o_at x_o_night x_o_spent x_o_rest x_o_shy a_o_had a_o_told a_o_barred a_o_cost a_o_last a_o_often x_o_hasBegun x_o_doneMany x_o_undoneMany a_o_changeOf a_o_changeAt a_o_before a_o_behind a_o_tape x_o_taped x_o_here x_o_fault x_o_open x_o_laid a_o_act a_o_with a_o_lineMany a_o_testEnd a_o_lineEnd a_o_facts a_o_pile x_o_hasLaw a_o_way a_o_bestWay x_o_bestMany a_o_wasHad a_o_wasLast x_o_wasAt x_o_wasNight x_o_hasImage x_o_keptLamps x_o_keptAt x_o_keptNight x_o_keptSpent a_o_keptHad a_o_keptTold a_o_keptLast a_o_keptOften x_o_bodies a_o_kind x_o_traces a_o_traced a_o_holds a_o_size a_o_elements a_o_shifted, A_I dA a_o_holds 6 x_o_holds, A_I dA a_o_kind 50 x_o_kind] (some (.int r0)) (fun _ : Unit => [O_Mo a_o x_o_code x_o_lamps x_o_at x_o_night x_o_spent x_o_rest x_o_shy a_o_had a_o_told a_o_barred a_o_cost a_o_last a_o_often x_o_hasBegun x_o_doneMany x_o_undoneMany a_o_changeOf a_o_changeAt a_o_before a_o_behind a_o_tape x_o_taped x_o_here x_o_fault x_o_open x_o_laid a_o_act a_o_with a_o_lineMany a_o_testEnd a_o_lineEnd a_o_facts a_o_pile x_o_hasLaw a_o_way a_o_bestWay x_o_bestMany a_o_wasHad a_o_wasLast x_o_wasAt x_o_wasNight x_o_hasImage x_o_keptLamps x_o_keptAt x_o_keptNight x_o_keptSpent a_o_keptHad a_o_keptTold a_o_keptLast a_o_keptOften x_o_bodies a_o_kind x_o_traces a_o_traced a_o_holds a_o_size a_o_elements a_o_shifted, A_I dA a_o_holds 6 x_o_holds, A_I dA a_o_kind 50 x_o_kind]) := by
  refine ct_intro "OneLampModel" rfl (by decide +kernel) (Nat.le_of_ble_eq_true rfl) [(0, .ref a_o), (1, .int p1), (2, .int p2)] rfl (fun _ C => ?_)
  unfold f_Mo_taken at hf
  refine g_iload_n (pc' := 1) C 1 d_Mo_taken_0 rfl rfl ?_
  replace hf := g_bi hf; obtain ⟨r1, hc2, hf⟩ := hf
  refine g_callS (pc' := 4) (st1 := [.int (b2i r1)]) (ws1 := [O_Mo a_o x_o_code x_o_lamps x_o_at x_o_night x_o_spent x_o_rest x_o_shy a_o_had a_o_told a_o_barred a_o_cost a_o_last a_o_often x_o_hasBegun x_o_doneMany x_o_undoneMany a_o_changeOf a_o_changeAt a_o_before a_o_behind a_o_tape x_o_taped x_o_here x_o_fault x_o_open x_o_laid a_o_act a_o_with a_o_lineMany a_o_testEnd a_o_lineEnd a_o_facts a_o_pile x_o_hasLaw a_o_way a_o_bestWay x_o_bestMany a_o_wasHad a_o_wasLast x_o_wasAt x_o_wasNight x_o_hasImage x_o_keptLamps x_o_keptAt x_o_keptNight x_o_keptSpent a_o_keptHad a_o_keptTold a_o_keptLast a_o_keptOften x_o_bodies a_o_kind x_o_traces a_o_traced a_o_holds a_o_size a_o_elements a_o_shifted, A_I dA a_o_holds 6 x_o_holds, A_I dA a_o_kind 50 x_o_kind]) C (c_Mo_isShelf (l := l) (D := D) (dA := dA)    hc2) yy_Mo_isShelf mw_5_107 d_Mo_taken_1 rfl [] rfl rfl (Nat.le_of_ble_eq_true rfl) ⟨Nat.le_of_ble_eq_true rfl, Nat.le_of_ble_eq_true rfl⟩ rfl rfl (Nat.zero_le _) (Nat.zero_le _) [] rfl (by decide +kernel) rfl (g_lay_sel _ _ _ _ [(0, false), (1, false), (2, false)] (by decide +kernel) rfl (by decide +kernel) rfl rfl) rfl ?_
  refine g_if_eqb (pc' := 7) (tgt := 17) C d_Mo_taken_4 rfl rfl (fun h => ?_) (fun h => ?_)
  · replace hf := g_bf h hf
    refine g_iconst (pc' := 18) (v := (-1)) C d_Mo_taken_17 rfl rfl ?_
    replace hf := Option.some.inj hf; subst hf
    exact g_iret C d_Mo_taken_18 () rfl
  · replace hf := g_bt h hf
    refine g_iload_n (pc' := 8) C 2 d_Mo_taken_7 rfl rfl ?_
    refine g_iconst (pc' := 9) (v := 0) C d_Mo_taken_8 rfl rfl ?_
    refine g_bipush (pc' := 11) (v := 7) C d_Mo_taken_9 rfl rfl ?_
    replace hf := g_bi hf; obtain ⟨r3, hc4, hf⟩ := hf
    refine g_callS (pc' := 14) (st1 := [.int (b2i r3)]) (ws1 := [O_Mo a_o x_o_code x_o_lamps x_o_at x_o_night x_o_spent x_o_rest x_o_shy a_o_had a_o_told a_o_barred a_o_cost a_o_last a_o_often x_o_hasBegun x_o_doneMany x_o_undoneMany a_o_changeOf a_o_changeAt a_o_before a_o_behind a_o_tape x_o_taped x_o_here x_o_fault x_o_open x_o_laid a_o_act a_o_with a_o_lineMany a_o_testEnd a_o_lineEnd a_o_facts a_o_pile x_o_hasLaw a_o_way a_o_bestWay x_o_bestMany a_o_wasHad a_o_wasLast x_o_wasAt x_o_wasNight x_o_hasImage x_o_keptLamps x_o_keptAt x_o_keptNight x_o_keptSpent a_o_keptHad a_o_keptTold a_o_keptLast a_o_keptOften x_o_bodies a_o_kind x_o_traces a_o_traced a_o_holds a_o_size a_o_elements a_o_shifted, A_I dA a_o_holds 6 x_o_holds, A_I dA a_o_kind 50 x_o_kind]) C (c_Mo_in (l := l) (D := D) (dA := dA)    hc4) yy_Mo_in mw_5_80 d_Mo_taken_11 rfl [] rfl rfl (Nat.le_of_ble_eq_true rfl) ⟨Nat.le_of_ble_eq_true rfl, Nat.le_of_ble_eq_true rfl⟩ rfl rfl (Nat.zero_le _) (Nat.zero_le _) [] rfl (by decide +kernel) rfl (g_lay_sel _ _ _ _ [(0, false), (1, false), (2, false)] (by decide +kernel) rfl (by decide +kernel) rfl rfl) rfl ?_
    refine g_if_neb (pc' := 17) (tgt := 19) C d_Mo_taken_14 rfl rfl (fun h => ?_) (fun h => ?_)
    · replace hf := g_bt h hf
      refine g_aload_n (pc' := 20) C 0 d_Mo_taken_19 rfl rfl ?_
      refine g_get (pc' := 23) C kf_Mo 54 mw_4_192 d_Mo_taken_20 rfl 0 rfl (by decide) rfl ?_
      refine g_iload_n (pc' := 24) C 1 d_Mo_taken_23 rfl rfl ?_
      have hb := g_ck hf
      replace hf := g_in hb hf
      refine g_iald (pc' := 25) C d_Mo_taken_24 rfl 1 rfl hb ?_
      refine g_iconst (pc' := 26) (v := (-1)) C d_Mo_taken_25 rfl rfl ?_
      refine g_icmp_ne (pc' := 29) (tgt := 32) C d_Mo_taken_26 rfl rfl (fun h => ?_) (fun h => ?_)
      · replace hf := g_in h hf
        refine g_aload_n (pc' := 33) C 0 d_Mo_taken_32 rfl rfl ?_
        refine g_get (pc' := 36) C kf_Mo 54 mw_4_192 d_Mo_taken_33 rfl 0 rfl (by decide) rfl ?_
        refine g_iload_n (pc' := 37) C 1 d_Mo_taken_36 rfl rfl ?_
        have hb := g_ck hf
        replace hf := g_in hb hf
        refine g_iald (pc' := 38) C d_Mo_taken_37 rfl 1 rfl hb ?_
        refine g_if_lt (pc' := 41) (tgt := 73) C d_Mo_taken_38 rfl rfl (fun h => ?_) (fun h => ?_)
        · replace hf := g_ip h hf
          refine g_bipush (pc' := 75) (v := (-12)) C d_Mo_taken_73 rfl rfl ?_
          replace hf := Option.some.inj hf; subst hf
          exact g_iret C d_Mo_taken_75 () rfl
        · replace hf := g_in h hf
          refine g_aload_n (pc' := 42) C 0 d_Mo_taken_41 rfl rfl ?_
          refine g_get (pc' := 45) C kf_Mo 51 mw_4_189 d_Mo_taken_42 rfl 0 rfl (by decide) rfl ?_
          refine g_aload_n (pc' := 46) C 0 d_Mo_taken_45 rfl rfl ?_
          refine g_get (pc' := 49) C kf_Mo 54 mw_4_192 d_Mo_taken_46 rfl 0 rfl (by decide) rfl ?_
          refine g_iload_n (pc' := 50) C 1 d_Mo_taken_49 rfl rfl ?_
          have hb := g_ck hf
          replace hf := g_in hb hf
          refine g_iald (pc' := 51) C d_Mo_taken_50 rfl 1 rfl hb ?_
          have hb := g_ck hf
          replace hf := g_in hb hf
          refine g_iald (pc' := 52) C d_Mo_taken_51 rfl 2 rfl hb ?_
          refine g_iload_n (pc' := 53) C 2 d_Mo_taken_52 rfl rfl ?_
          replace hf := g_bi hf; obtain ⟨r5, hc6, hf⟩ := hf
          refine g_callS (pc' := 56) (st1 := [.int (b2i r5)]) (ws1 := [O_Mo a_o x_o_code x_o_lamps x_o_at x_o_night x_o_spent x_o_rest x_o_shy a_o_had a_o_told a_o_barred a_o_cost a_o_last a_o_often x_o_hasBegun x_o_doneMany x_o_undoneMany a_o_changeOf a_o_changeAt a_o_before a_o_behind a_o_tape x_o_taped x_o_here x_o_fault x_o_open x_o_laid a_o_act a_o_with a_o_lineMany a_o_testEnd a_o_lineEnd a_o_facts a_o_pile x_o_hasLaw a_o_way a_o_bestWay x_o_bestMany a_o_wasHad a_o_wasLast x_o_wasAt x_o_wasNight x_o_hasImage x_o_keptLamps x_o_keptAt x_o_keptNight x_o_keptSpent a_o_keptHad a_o_keptTold a_o_keptLast a_o_keptOften x_o_bodies a_o_kind x_o_traces a_o_traced a_o_holds a_o_size a_o_elements a_o_shifted, A_I dA a_o_holds 6 x_o_holds, A_I dA a_o_kind 50 x_o_kind]) C (c_Mo_isUnder (l := l) (D := D) (dA := dA)    hc6) yy_Mo_isUnder mw_6_143 d_Mo_taken_53 rfl [] rfl rfl (Nat.le_of_ble_eq_true rfl) ⟨Nat.le_of_ble_eq_true rfl, Nat.le_of_ble_eq_true rfl⟩ rfl rfl (Nat.zero_le _) (Nat.zero_le _) [] rfl (by decide +kernel) rfl (g_lay_sel _ _ _ _ [(0, false), (1, false), (2, false)] (by decide +kernel) rfl (by decide +kernel) rfl rfl) rfl ?_
          refine g_if_eqb (pc' := 59) (tgt := 73) C d_Mo_taken_56 rfl rfl (fun h => ?_) (fun h => ?_)
          · replace hf := g_bf h hf
            refine g_bipush (pc' := 75) (v := (-12)) C d_Mo_taken_73 rfl rfl ?_
            replace hf := Option.some.inj hf; subst hf
            exact g_iret C d_Mo_taken_75 () rfl
          · replace hf := g_bt h hf
            refine g_aload_n (pc' := 60) C 0 d_Mo_taken_59 rfl rfl ?_
            refine g_get (pc' := 63) C kf_Mo 51 mw_4_189 d_Mo_taken_60 rfl 0 rfl (by decide) rfl ?_
            refine g_aload_n (pc' := 64) C 0 d_Mo_taken_63 rfl rfl ?_
            refine g_get (pc' := 67) C kf_Mo 54 mw_4_192 d_Mo_taken_64 rfl 0 rfl (by decide) rfl ?_
            refine g_iload_n (pc' := 68) C 1 d_Mo_taken_67 rfl rfl ?_
            have hb := g_ck hf
            replace hf := g_in hb hf
            refine g_iald (pc' := 69) C d_Mo_taken_68 rfl 1 rfl hb ?_
            have hb := g_ck hf
            replace hf := g_in hb hf
            refine g_iald (pc' := 70) C d_Mo_taken_69 rfl 2 rfl hb ?_
            refine g_goto (tgt := 75) C d_Mo_taken_70 rfl ?_
            replace hf := Option.some.inj hf; subst hf
            exact g_iret C d_Mo_taken_75 () rfl
      · replace hf := g_ip h hf
        refine g_bipush (pc' := 31) (v := (-11)) C d_Mo_taken_29 rfl rfl ?_
        replace hf := Option.some.inj hf; subst hf
        exact g_iret C d_Mo_taken_31 () rfl
    · replace hf := g_bf h hf
      refine g_iconst (pc' := 18) (v := (-1)) C d_Mo_taken_17 rfl rfl ?_
      replace hf := Option.some.inj hf; subst hf
      exact g_iret C d_Mo_taken_18 () rfl
