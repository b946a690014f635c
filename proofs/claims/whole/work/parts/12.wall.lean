def y_Wa_hasPicture : MethodName := ⟨"OneLamp$Wall", "hasPicture", "(I)Z"⟩
theorem yy_Wa_hasPicture : YV y_Wa_hasPicture prog_11_method_2_code 2 (some .boolean) 1 := ⟨mw_2_85, mw_1_2, mw_2_83, mw_2_84, by decide +kernel, by decide +kernel, by decide +kernel⟩
theorem d_Wa_hasPicture_0 : decode prog_11_method_2_code 0 = .ok (.iload_n 1, 1) := by decide +kernel
theorem d_Wa_hasPicture_1 : decode prog_11_method_2_code 1 = .ok (.ifCond .lt 17, 3) := by decide +kernel
theorem d_Wa_hasPicture_4 : decode prog_11_method_2_code 4 = .ok (.iload_n 1, 1) := by decide +kernel
theorem d_Wa_hasPicture_5 : decode prog_11_method_2_code 5 = .ok (.iconst 1, 1) := by decide +kernel
theorem d_Wa_hasPicture_6 : decode prog_11_method_2_code 6 = .ok (.aload_n 0, 1) := by decide +kernel
theorem d_Wa_hasPicture_7 : decode prog_11_method_2_code 7 = .ok (.getfield 9, 3) := by decide +kernel
theorem d_Wa_hasPicture_10 : decode prog_11_method_2_code 10 = .ok (.ishl, 1) := by decide +kernel
theorem d_Wa_hasPicture_11 : decode prog_11_method_2_code 11 = .ok (.if_icmp .ge 7, 3) := by decide +kernel
theorem d_Wa_hasPicture_14 : decode prog_11_method_2_code 14 = .ok (.iconst 1, 1) := by decide +kernel
theorem d_Wa_hasPicture_15 : decode prog_11_method_2_code 15 = .ok (.goto 4, 3) := by decide +kernel
theorem d_Wa_hasPicture_18 : decode prog_11_method_2_code 18 = .ok (.iconst 0, 1) := by decide +kernel
theorem d_Wa_hasPicture_19 : decode prog_11_method_2_code 19 = .ok (.ireturn, 1) := by decide +kernel
def f_Wa_hasPicture  (p1 : Int32) (x_o_lamps : Int32) : Option (Bool) :=
  if p1 < 0 then
    (some (false))
  else
    (if ((1 : Int32) <<< (x_o_lamps &&& 31)) ≤ p1 then
      (some (false))
    else
      (some (true)))
set_option maxRecDepth 20000 in
theorem c_Wa_hasPicture {l : Launch} {D : va_G} {dA : Nat → ClassId} {a_o a_o_had a_o_told a_o_last a_o_often : Nat} {x_o_picture : Int32} {x_o_night : Int32} {x_o_spent : Int32} {p1 : Int32} {x_o_lamps : Int32} {r0 : Bool}   (hf : f_Wa_hasPicture  p1 x_o_lamps = some r0) : CT l y_Wa_hasPicture prog_11_method_2_code 2 (some .boolean) { frames := 0, cells := 0, slots := 0, locals := 0 } D dA [.ref a_o, .int p1] [O_Wa a_o x_o_lamps x_o_picture x_o_night x_o_spent a_o_had a_o_told a_o_last a_o_often] (some (.int (b2i r0))) (fun _ : Unit => [O_Wa a_o x_o_lamps x_o_picture x_o_night x_o_spent a_o_had a_o_told a_o_last a_o_often]) := by
  refine ct_intro "OneLamp$Wall" rfl (by decide +kernel) (Nat.le_of_ble_eq_true rfl) [(0, .ref a_o), (1, .int p1)] rfl (fun _ C => ?_)
  unfold f_Wa_hasPicture at hf
  refine g_iload_n (pc' := 1) C 1 d_Wa_hasPicture_0 rfl rfl ?_
  refine g_if_lt (pc' := 4) (tgt := 18) C d_Wa_hasPicture_1 rfl rfl (fun h => ?_) (fun h => ?_)
  · replace hf := g_ip h hf
    refine g_iconst (pc' := 19) (v := 0) C d_Wa_hasPicture_18 rfl rfl ?_
    replace hf := Option.some.inj hf; subst hf
    exact g_zret C d_Wa_hasPicture_19 () rfl
  · replace hf := g_in h hf
    refine g_iload_n (pc' := 5) C 1 d_Wa_hasPicture_4 rfl rfl ?_
    refine g_iconst (pc' := 6) (v := 1) C d_Wa_hasPicture_5 rfl rfl ?_
    refine g_aload_n (pc' := 7) C 0 d_Wa_hasPicture_6 rfl rfl ?_
    refine g_get (pc' := 10) C kf_Wa 0 mw_1_63 d_Wa_hasPicture_7 rfl 0 rfl (by decide) rfl ?_
    refine g_ishl (pc' := 11) C d_Wa_hasPicture_10 rfl ?_
    refine g_icmp_ge (pc' := 14) (tgt := 18) C d_Wa_hasPicture_11 rfl rfl (fun h => ?_) (fun h => ?_)
    · replace hf := g_ip h hf
      refine g_iconst (pc' := 19) (v := 0) C d_Wa_hasPicture_18 rfl rfl ?_
      replace hf := Option.some.inj hf; subst hf
      exact g_zret C d_Wa_hasPicture_19 () rfl
    · replace hf := g_in h hf
      refine g_iconst (pc' := 15) (v := 1) C d_Wa_hasPicture_14 rfl rfl ?_
      refine g_goto (tgt := 19) C d_Wa_hasPicture_15 rfl ?_
      replace hf := Option.some.inj hf; subst hf
      exact g_zret C d_Wa_hasPicture_19 () rfl
def y_Wa_hasLamp : MethodName := ⟨"OneLamp$Wall", "hasLamp", "(I)Z"⟩
theorem yy_Wa_hasLamp : YV y_Wa_hasLamp prog_11_method_3_code 2 (some .boolean) 1 := ⟨mw_3_35, mw_1_2, mw_3_33, mw_3_34, by decide +kernel, by decide +kernel, by decide +kernel⟩
theorem d_Wa_hasLamp_0 : decode prog_11_method_3_code 0 = .ok (.iload_n 1, 1) := by decide +kernel
theorem d_Wa_hasLamp_1 : decode prog_11_method_3_code 1 = .ok (.ifCond .lt 21, 3) := by decide +kernel
theorem d_Wa_hasLamp_4 : decode prog_11_method_3_code 4 = .ok (.iload_n 1, 1) := by decide +kernel
theorem d_Wa_hasLamp_5 : decode prog_11_method_3_code 5 = .ok (.aload_n 0, 1) := by decide +kernel
theorem d_Wa_hasLamp_6 : decode prog_11_method_3_code 6 = .ok (.getfield 9, 3) := by decide +kernel
theorem d_Wa_hasLamp_9 : decode prog_11_method_3_code 9 = .ok (.if_icmp .ge 13, 3) := by decide +kernel
theorem d_Wa_hasLamp_12 : decode prog_11_method_3_code 12 = .ok (.iload_n 1, 1) := by decide +kernel
theorem d_Wa_hasLamp_13 : decode prog_11_method_3_code 13 = .ok (.bipush 10, 2) := by decide +kernel
theorem d_Wa_hasLamp_15 : decode prog_11_method_3_code 15 = .ok (.if_icmp .ge 7, 3) := by decide +kernel
theorem d_Wa_hasLamp_18 : decode prog_11_method_3_code 18 = .ok (.iconst 1, 1) := by decide +kernel
theorem d_Wa_hasLamp_19 : decode prog_11_method_3_code 19 = .ok (.goto 4, 3) := by decide +kernel
theorem d_Wa_hasLamp_22 : decode prog_11_method_3_code 22 = .ok (.iconst 0, 1) := by decide +kernel
theorem d_Wa_hasLamp_23 : decode prog_11_method_3_code 23 = .ok (.ireturn, 1) := by decide +kernel
def f_Wa_hasLamp  (p1 : Int32) (x_o_lamps : Int32) : Option (Bool) :=
  if p1 < 0 then
    (some (false))
  else
    (if x_o_lamps ≤ p1 then
      (some (false))
    else
      (if (10 : Int32) ≤ p1 then
        (some (false))
      else
        (some (true))))
set_option maxRecDepth 20000 in
theorem c_Wa_hasLamp {l : Launch} {D : va_G} {dA : Nat → ClassId} {a_o a_o_had a_o_told a_o_last a_o_often : Nat} {x_o_picture : Int32} {x_o_night : Int32} {x_o_spent : Int32} {p1 : Int32} {x_o_lamps : Int32} {r0 : Bool}   (hf : f_Wa_hasLamp  p1 x_o_lamps = some r0) : CT l y_Wa_hasLamp prog_11_method_3_code 2 (some .boolean) { frames := 0, cells := 0, slots := 0, locals := 0 } D dA [.ref a_o, .int p1] [O_Wa a_o x_o_lamps x_o_picture x_o_night x_o_spent a_o_had a_o_told a_o_last a_o_often] (some (.int (b2i r0))) (fun _ : Unit => [O_Wa a_o x_o_lamps x_o_picture x_o_night x_o_spent a_o_had a_o_told a_o_last a_o_often]) := by
  refine ct_intro "OneLamp$Wall" rfl (by decide +kernel) (Nat.le_of_ble_eq_true rfl) [(0, .ref a_o), (1, .int p1)] rfl (fun _ C => ?_)
  unfold f_Wa_hasLamp at hf
  refine g_iload_n (pc' := 1) C 1 d_Wa_hasLamp_0 rfl rfl ?_
  refine g_if_lt (pc' := 4) (tgt := 22) C d_Wa_hasLamp_1 rfl rfl (fun h => ?_) (fun h => ?_)
  · replace hf := g_ip h hf
    refine g_iconst (pc' := 23) (v := 0) C d_Wa_hasLamp_22 rfl rfl ?_
    replace hf := Option.some.inj hf; subst hf
    exact g_zret C d_Wa_hasLamp_23 () rfl
  · replace hf := g_in h hf
    refine g_iload_n (pc' := 5) C 1 d_Wa_hasLamp_4 rfl rfl ?_
    refine g_aload_n (pc' := 6) C 0 d_Wa_hasLamp_5 rfl rfl ?_
    refine g_get (pc' := 9) C kf_Wa 0 mw_1_63 d_Wa_hasLamp_6 rfl 0 rfl (by decide) rfl ?_
    refine g_icmp_ge (pc' := 12) (tgt := 22) C d_Wa_hasLamp_9 rfl rfl (fun h => ?_) (fun h => ?_)
    · replace hf := g_ip h hf
      refine g_iconst (pc' := 23) (v := 0) C d_Wa_hasLamp_22 rfl rfl ?_
      replace hf := Option.some.inj hf; subst hf
      exact g_zret C d_Wa_hasLamp_23 () rfl
    · replace hf := g_in h hf
      refine g_iload_n (pc' := 13) C 1 d_Wa_hasLamp_12 rfl rfl ?_
      refine g_bipush (pc' := 15) (v := 10) C d_Wa_hasLamp_13 rfl rfl ?_
      refine g_icmp_ge (pc' := 18) (tgt := 22) C d_Wa_hasLamp_15 rfl rfl (fun h => ?_) (fun h => ?_)
      · replace hf := g_ip h hf
        refine g_iconst (pc' := 23) (v := 0) C d_Wa_hasLamp_22 rfl rfl ?_
        replace hf := Option.some.inj hf; subst hf
        exact g_zret C d_Wa_hasLamp_23 () rfl
      · replace hf := g_in h hf
        refine g_iconst (pc' := 19) (v := 1) C d_Wa_hasLamp_18 rfl rfl ?_
        refine g_goto (tgt := 23) C d_Wa_hasLamp_19 rfl ?_
        replace hf := Option.some.inj hf; subst hf
        exact g_zret C d_Wa_hasLamp_23 () rfl
def y_Wa_startAt : MethodName := ⟨"OneLamp$Wall", "startAt", "(I)V"⟩
theorem yy_Wa_startAt : YV y_Wa_startAt prog_11_method_4_code 2 none 1 := ⟨mw_1_45, mw_1_2, mw_1_43, mw_1_44, by decide +kernel, by decide +kernel, by decide +kernel⟩
theorem d_Wa_startAt_0 : decode prog_11_method_4_code 0 = .ok (.aload_n 0, 1) := by decide +kernel
theorem d_Wa_startAt_1 : decode prog_11_method_4_code 1 = .ok (.iload_n 1, 1) := by decide +kernel
theorem d_Wa_startAt_2 : decode prog_11_method_4_code 2 = .ok (.putfield 36, 3) := by decide +kernel
theorem d_Wa_startAt_5 : decode prog_11_method_4_code 5 = .ok (.aload_n 0, 1) := by decide +kernel
theorem d_Wa_startAt_6 : decode prog_11_method_4_code 6 = .ok (.iconst 0, 1) := by decide +kernel
theorem d_Wa_startAt_7 : decode prog_11_method_4_code 7 = .ok (.putfield 39, 3) := by decide +kernel
theorem d_Wa_startAt_10 : decode prog_11_method_4_code 10 = .ok (.aload_n 0, 1) := by decide +kernel
theorem d_Wa_startAt_11 : decode prog_11_method_4_code 11 = .ok (.iconst 0, 1) := by decide +kernel
theorem d_Wa_startAt_12 : decode prog_11_method_4_code 12 = .ok (.putfield 42, 3) := by decide +kernel
theorem d_Wa_startAt_15 : decode prog_11_method_4_code 15 = .ok (.aload_n 0, 1) := by decide +kernel
theorem d_Wa_startAt_16 : decode prog_11_method_4_code 16 = .ok (.getfield 18, 3) := by decide +kernel
theorem d_Wa_startAt_19 : decode prog_11_method_4_code 19 = .ok (.invokevirtual 45, 3) := by decide +kernel
theorem d_Wa_startAt_22 : decode prog_11_method_4_code 22 = .ok (.aload_n 0, 1) := by decide +kernel
theorem d_Wa_startAt_23 : decode prog_11_method_4_code 23 = .ok (.getfield 18, 3) := by decide +kernel
theorem d_Wa_startAt_26 : decode prog_11_method_4_code 26 = .ok (.iload_n 1, 1) := by decide +kernel
theorem d_Wa_startAt_27 : decode prog_11_method_4_code 27 = .ok (.invokevirtual 48, 3) := by decide +kernel
theorem d_Wa_startAt_30 : decode prog_11_method_4_code 30 = .ok (.aload_n 0, 1) := by decide +kernel
theorem d_Wa_startAt_31 : decode prog_11_method_4_code 31 = .ok (.getfield 25, 3) := by decide +kernel
theorem d_Wa_startAt_34 : decode prog_11_method_4_code 34 = .ok (.bipush (-2), 2) := by decide +kernel
theorem d_Wa_startAt_36 : decode prog_11_method_4_code 36 = .ok (.invokestatic 51, 3) := by decide +kernel
theorem d_Wa_startAt_39 : decode prog_11_method_4_code 39 = .ok (.aload_n 0, 1) := by decide +kernel
theorem d_Wa_startAt_40 : decode prog_11_method_4_code 40 = .ok (.getfield 29, 3) := by decide +kernel
theorem d_Wa_startAt_43 : decode prog_11_method_4_code 43 = .ok (.iconst 0, 1) := by decide +kernel
theorem d_Wa_startAt_44 : decode prog_11_method_4_code 44 = .ok (.invokestatic 51, 3) := by decide +kernel
theorem d_Wa_startAt_47 : decode prog_11_method_4_code 47 = .ok (.return_, 1) := by decide +kernel
def f_Wa_startAt  (p1 : Int32) (x_o_picture : Int32) (x_o_night : Int32) (x_o_spent : Int32) (x_o_had_words : Nat → Int64) (x_o_last : Nat → Int32) (x_o_often : Nat → Int32) : Option (Int32 × Int32 × Int32 × (Nat → Int64) × (Nat → Int32) × (Nat → Int32)) :=
  (f_Pi_empty  x_o_had_words).bind fun u1 =>
  (f_Pi_add  p1 u1).bind fun u3 =>
  (f_JA_fill_I  (-2 : Int32) x_o_last 10).bind fun u5 =>
  (f_JA_fill_I  (0 : Int32) x_o_often 10).bind fun u7 =>
  some (p1, (0 : Int32), (0 : Int32), u3, u5, u7)
set_option maxRecDepth 20000 in
theorem c_Wa_startAt {l : Launch} {D : va_G} {dA : Nat → ClassId} {a_o a_o_had a_o_told a_o_last a_o_often a_o_had_words : Nat} {x_o_lamps : Int32} {p1 : Int32} {x_o_picture : Int32} {x_o_night : Int32} {x_o_spent : Int32} {x_o_had_words : Nat → Int64} {x_o_last : Nat → Int32} {x_o_often : Nat → Int32} {o_x_o_picture : Int32} {o_x_o_night : Int32} {o_x_o_spent : Int32} {o_x_o_had_words : Nat → Int64} {o_x_o_last : Nat → Int32} {o_x_o_often : Nat → Int32}   (hf : f_Wa_startAt  p1 x_o_picture x_o_night x_o_spent x_o_had_words x_o_last x_o_often = some (o_x_o_picture, o_x_o_night, o_x_o_spent, o_x_o_had_words, o_x_o_last, o_x_o_often)) : CT l y_Wa_startAt prog_11_method_4_code 2 none { frames := 2, cells := 0, slots := 0, locals := 44 } D dA [.ref a_o, .int p1] [O_Wa a_o x_o_lamps x_o_picture x_o_night x_o_spent a_o_had a_o_told a_o_last a_o_often, O_Pi a_o_had a_o_had_words, A_J dA a_o_had_words 16 x_o_had_words, A_I dA a_o_last 10 x_o_last, A_I dA a_o_often 10 x_o_often] none (fun _ : Unit => [O_Wa a_o x_o_lamps o_x_o_picture o_x_o_night o_x_o_spent a_o_had a_o_told a_o_last a_o_often, O_Pi a_o_had a_o_had_words, A_J dA a_o_had_words 16 o_x_o_had_words, A_I dA a_o_last 10 o_x_o_last, A_I dA a_o_often 10 o_x_o_often]) := by
  refine ct_intro "OneLamp$Wall" rfl (by decide +kernel) (Nat.le_of_ble_eq_true rfl) [(0, .ref a_o), (1, .int p1)] rfl (fun _ C => ?_)
  unfold f_Wa_startAt at hf
  refine g_aload_n (pc' := 1) C 0 d_Wa_startAt_0 rfl rfl ?_
  refine g_iload_n (pc' := 2) C 1 d_Wa_startAt_1 rfl rfl ?_
  refine g_put (pc' := 5) (ws' := [O_Wa a_o x_o_lamps p1 x_o_night x_o_spent a_o_had a_o_told a_o_last a_o_often, O_Pi a_o_had a_o_had_words, A_J dA a_o_had_words 16 x_o_had_words, A_I dA a_o_last 10 x_o_last, A_I dA a_o_often 10 x_o_often]) C kf_Wa 1 mw_1_67 d_Wa_startAt_2 rfl 0 rfl (by decide) rfl rfl rfl (Nat.le_of_ble_eq_true rfl) rfl ?_
  refine g_aload_n (pc' := 6) C 0 d_Wa_startAt_5 rfl rfl ?_
  refine g_iconst (pc' := 7) (v := 0) C d_Wa_startAt_6 rfl rfl ?_
  refine g_put (pc' := 10) (ws' := [O_Wa a_o x_o_lamps p1 (0 : Int32) x_o_spent a_o_had a_o_told a_o_last a_o_often, O_Pi a_o_had a_o_had_words, A_J dA a_o_had_words 16 x_o_had_words, A_I dA a_o_last 10 x_o_last, A_I dA a_o_often 10 x_o_often]) C kf_Wa 2 mw_1_71 d_Wa_startAt_7 rfl 0 rfl (by decide) rfl rfl rfl (Nat.le_of_ble_eq_true rfl) rfl ?_
  refine g_aload_n (pc' := 11) C 0 d_Wa_startAt_10 rfl rfl ?_
  refine g_iconst (pc' := 12) (v := 0) C d_Wa_startAt_11 rfl rfl ?_
  refine g_put (pc' := 15) (ws' := [O_Wa a_o x_o_lamps p1 (0 : Int32) (0 : Int32) a_o_had a_o_told a_o_last a_o_often, O_Pi a_o_had a_o_had_words, A_J dA a_o_had_words 16 x_o_had_words, A_I dA a_o_last 10 x_o_last, A_I dA a_o_often 10 x_o_often]) C kf_Wa 3 mw_1_74 d_Wa_startAt_12 rfl 0 rfl (by decide) rfl rfl rfl (Nat.le_of_ble_eq_true rfl) rfl ?_
  refine g_aload_n (pc' := 16) C 0 d_Wa_startAt_15 rfl rfl ?_
  refine g_get (pc' := 19) C kf_Wa 4 mw_1_76 d_Wa_startAt_16 rfl 0 rfl (by decide) rfl ?_
  replace hf := g_bi hf; obtain ⟨u1, hc2, hf⟩ := hf
  refine g_callV (pc' := 22) (st1 := []) (ws1 := [O_Wa a_o x_o_lamps p1 (0 : Int32) (0 : Int32) a_o_had a_o_told a_o_last a_o_often, O_Pi a_o_had a_o_had_words, A_J dA a_o_had_words 16 u1, A_I dA a_o_last 10 x_o_last, A_I dA a_o_often 10 x_o_often]) C (c_Pi_empty (l := l) (D := D) (dA := dA) (a_o := a_o_had) (a_o_words := a_o_had_words)   hc2) yy_Pi_empty kf_Pi rfl mw_1_46 d_Wa_startAt_19 rfl [] rfl rfl (Nat.le_of_ble_eq_true rfl) ⟨Nat.le_of_ble_eq_true rfl, Nat.le_of_ble_eq_true rfl⟩ rfl rfl (Nat.zero_le _) (Nat.zero_le _) 1 rfl [1, 2] rfl (by decide +kernel) rfl (g_lay_sel _ _ _ _ [(0, false), (0, true), (1, true), (3, false), (4, false)] (by decide +kernel) rfl (by decide +kernel) rfl rfl) rfl ?_
  refine g_aload_n (pc' := 23) C 0 d_Wa_startAt_22 rfl rfl ?_
  refine g_get (pc' := 26) C kf_Wa 4 mw_1_76 d_Wa_startAt_23 rfl 0 rfl (by decide) rfl ?_
  refine g_iload_n (pc' := 27) C 1 d_Wa_startAt_26 rfl rfl ?_
  replace hf := g_bi hf; obtain ⟨u3, hc4, hf⟩ := hf
  refine g_callV (pc' := 30) (st1 := []) (ws1 := [O_Wa a_o x_o_lamps p1 (0 : Int32) (0 : Int32) a_o_had a_o_told a_o_last a_o_often, O_Pi a_o_had a_o_had_words, A_J dA a_o_had_words 16 u3, A_I dA a_o_last 10 x_o_last, A_I dA a_o_often 10 x_o_often]) C (c_Pi_add (l := l) (D := D) (dA := dA) (a_o := a_o_had) (a_o_words := a_o_had_words)   hc4) yy_Pi_add kf_Pi rfl mw_1_53 d_Wa_startAt_27 rfl [] rfl rfl (Nat.le_of_ble_eq_true rfl) ⟨Nat.le_of_ble_eq_true rfl, Nat.le_of_ble_eq_true rfl⟩ rfl rfl (Nat.zero_le _) (Nat.zero_le _) 1 rfl [1, 2] rfl (by decide +kernel) rfl (g_lay_sel _ _ _ _ [(0, false), (0, true), (1, true), (3, false), (4, false)] (by decide +kernel) rfl (by decide +kernel) rfl rfl) rfl ?_
  refine g_aload_n (pc' := 31) C 0 d_Wa_startAt_30 rfl rfl ?_
  refine g_get (pc' := 34) C kf_Wa 6 mw_1_83 d_Wa_startAt_31 rfl 0 rfl (by decide) rfl ?_
  refine g_bipush (pc' := 36) (v := (-2)) C d_Wa_startAt_34 rfl rfl ?_
  replace hf := g_bi hf; obtain ⟨u5, hc6, hf⟩ := hf
  refine g_callS (pc' := 39) (st1 := []) (ws1 := [O_Wa a_o x_o_lamps p1 (0 : Int32) (0 : Int32) a_o_had a_o_told a_o_last a_o_often, O_Pi a_o_had a_o_had_words, A_J dA a_o_had_words 16 u3, A_I dA a_o_last 10 u5, A_I dA a_o_often 10 x_o_often]) C (c_JA_fill_I (l := l) (D := D) (dA := dA) (a_p0 := a_o_last)   hc6) yy_JA_fill_I mw_1_60 d_Wa_startAt_36 rfl [] rfl rfl (Nat.le_of_ble_eq_true rfl) ⟨Nat.le_of_ble_eq_true rfl, Nat.le_of_ble_eq_true rfl⟩ rfl rfl (Nat.zero_le _) (Nat.zero_le _) [3] rfl (by decide +kernel) rfl (g_lay_sel _ _ _ _ [(0, false), (1, false), (2, false), (0, true), (4, false)] (by decide +kernel) rfl (by decide +kernel) rfl rfl) rfl ?_
  refine g_aload_n (pc' := 40) C 0 d_Wa_startAt_39 rfl rfl ?_
  refine g_get (pc' := 43) C kf_Wa 7 mw_1_84 d_Wa_startAt_40 rfl 0 rfl (by decide) rfl ?_
  refine g_iconst (pc' := 44) (v := 0) C d_Wa_startAt_43 rfl rfl ?_
  replace hf := g_bi hf; obtain ⟨u7, hc8, hf⟩ := hf
  refine g_callS (pc' := 47) (st1 := []) (ws1 := [O_Wa a_o x_o_lamps p1 (0 : Int32) (0 : Int32) a_o_had a_o_told a_o_last a_o_often, O_Pi a_o_had a_o_had_words, A_J dA a_o_had_words 16 u3, A_I dA a_o_last 10 u5, A_I dA a_o_often 10 u7]) C (c_JA_fill_I (l := l) (D := D) (dA := dA) (a_p0 := a_o_often)   hc8) yy_JA_fill_I mw_1_60 d_Wa_startAt_44 rfl [] rfl rfl (Nat.le_of_ble_eq_true rfl) ⟨Nat.le_of_ble_eq_true rfl, Nat.le_of_ble_eq_true rfl⟩ rfl rfl (Nat.zero_le _) (Nat.zero_le _) [4] rfl (by decide +kernel) rfl (g_lay_sel _ _ _ _ [(0, false), (1, false), (2, false), (3, false), (0, true)] (by decide +kernel) rfl (by decide +kernel) rfl rfl) rfl ?_
  replace hf := g_o2 hf; obtain ⟨h1, hf⟩ := hf; subst h1
  replace hf := g_o2 hf; obtain ⟨h1, hf⟩ := hf; subst h1
  replace hf := g_o2 hf; obtain ⟨h1, hf⟩ := hf; subst h1
  replace hf := g_o2 hf; obtain ⟨h1, hf⟩ := hf; subst h1
  replace hf := g_o2 hf; obtain ⟨h1, hf⟩ := hf; subst h1
  replace hf := Option.some.inj hf; subst hf
  exact g_vret C d_Wa_startAt_47 () rfl
def y_Wa_become : MethodName := ⟨"OneLamp$Wall", "become", "(LOneLamp$Wall;)V"⟩
theorem yy_Wa_become : YV y_Wa_become prog_11_method_5_code 2 none 1 := ⟨mw_3_90, mw_1_2, mw_3_88, mw_3_89, by decide +kernel, by decide +kernel, by decide +kernel⟩
theorem d_Wa_become_0 : decode prog_11_method_5_code 0 = .ok (.aload_n 0, 1) := by decide +kernel
theorem d_Wa_become_1 : decode prog_11_method_5_code 1 = .ok (.aload_n 1, 1) := by decide +kernel
theorem d_Wa_become_2 : decode prog_11_method_5_code 2 = .ok (.getfield 9, 3) := by decide +kernel
theorem d_Wa_become_5 : decode prog_11_method_5_code 5 = .ok (.putfield 9, 3) := by decide +kernel
theorem d_Wa_become_8 : decode prog_11_method_5_code 8 = .ok (.aload_n 0, 1) := by decide +kernel
theorem d_Wa_become_9 : decode prog_11_method_5_code 9 = .ok (.aload_n 1, 1) := by decide +kernel
theorem d_Wa_become_10 : decode prog_11_method_5_code 10 = .ok (.getfield 36, 3) := by decide +kernel
theorem d_Wa_become_13 : decode prog_11_method_5_code 13 = .ok (.putfield 36, 3) := by decide +kernel
theorem d_Wa_become_16 : decode prog_11_method_5_code 16 = .ok (.aload_n 0, 1) := by decide +kernel
theorem d_Wa_become_17 : decode prog_11_method_5_code 17 = .ok (.aload_n 1, 1) := by decide +kernel
theorem d_Wa_become_18 : decode prog_11_method_5_code 18 = .ok (.getfield 39, 3) := by decide +kernel
theorem d_Wa_become_21 : decode prog_11_method_5_code 21 = .ok (.putfield 39, 3) := by decide +kernel
theorem d_Wa_become_24 : decode prog_11_method_5_code 24 = .ok (.aload_n 0, 1) := by decide +kernel
theorem d_Wa_become_25 : decode prog_11_method_5_code 25 = .ok (.aload_n 1, 1) := by decide +kernel
theorem d_Wa_become_26 : decode prog_11_method_5_code 26 = .ok (.getfield 42, 3) := by decide +kernel
theorem d_Wa_become_29 : decode prog_11_method_5_code 29 = .ok (.putfield 42, 3) := by decide +kernel
theorem d_Wa_become_32 : decode prog_11_method_5_code 32 = .ok (.aload_n 0, 1) := by decide +kernel
theorem d_Wa_become_33 : decode prog_11_method_5_code 33 = .ok (.getfield 18, 3) := by decide +kernel
theorem d_Wa_become_36 : decode prog_11_method_5_code 36 = .ok (.aload_n 1, 1) := by decide +kernel
theorem d_Wa_become_37 : decode prog_11_method_5_code 37 = .ok (.getfield 18, 3) := by decide +kernel
theorem d_Wa_become_40 : decode prog_11_method_5_code 40 = .ok (.invokevirtual 57, 3) := by decide +kernel
theorem d_Wa_become_43 : decode prog_11_method_5_code 43 = .ok (.aload_n 0, 1) := by decide +kernel
theorem d_Wa_become_44 : decode prog_11_method_5_code 44 = .ok (.getfield 22, 3) := by decide +kernel
theorem d_Wa_become_47 : decode prog_11_method_5_code 47 = .ok (.aload_n 1, 1) := by decide +kernel
theorem d_Wa_become_48 : decode prog_11_method_5_code 48 = .ok (.getfield 22, 3) := by decide +kernel
theorem d_Wa_become_51 : decode prog_11_method_5_code 51 = .ok (.invokevirtual 57, 3) := by decide +kernel
theorem d_Wa_become_54 : decode prog_11_method_5_code 54 = .ok (.aload_n 1, 1) := by decide +kernel
theorem d_Wa_become_55 : decode prog_11_method_5_code 55 = .ok (.getfield 25, 3) := by decide +kernel
theorem d_Wa_become_58 : decode prog_11_method_5_code 58 = .ok (.iconst 0, 1) := by decide +kernel
theorem d_Wa_become_59 : decode prog_11_method_5_code 59 = .ok (.aload_n 0, 1) := by decide +kernel
theorem d_Wa_become_60 : decode prog_11_method_5_code 60 = .ok (.getfield 25, 3) := by decide +kernel
theorem d_Wa_become_63 : decode prog_11_method_5_code 63 = .ok (.iconst 0, 1) := by decide +kernel
theorem d_Wa_become_64 : decode prog_11_method_5_code 64 = .ok (.bipush 10, 2) := by decide +kernel
theorem d_Wa_become_66 : decode prog_11_method_5_code 66 = .ok (.invokestatic 61, 3) := by decide +kernel
theorem d_Wa_become_69 : decode prog_11_method_5_code 69 = .ok (.aload_n 1, 1) := by decide +kernel
theorem d_Wa_become_70 : decode prog_11_method_5_code 70 = .ok (.getfield 29, 3) := by decide +kernel
theorem d_Wa_become_73 : decode prog_11_method_5_code 73 = .ok (.iconst 0, 1) := by decide +kernel
theorem d_Wa_become_74 : decode prog_11_method_5_code 74 = .ok (.aload_n 0, 1) := by decide +kernel
theorem d_Wa_become_75 : decode prog_11_method_5_code 75 = .ok (.getfield 29, 3) := by decide +kernel
theorem d_Wa_become_78 : decode prog_11_method_5_code 78 = .ok (.iconst 0, 1) := by decide +kernel
theorem d_Wa_become_79 : decode prog_11_method_5_code 79 = .ok (.bipush 10, 2) := by decide +kernel
theorem d_Wa_become_81 : decode prog_11_method_5_code 81 = .ok (.invokestatic 61, 3) := by decide +kernel
theorem d_Wa_become_84 : decode prog_11_method_5_code 84 = .ok (.return_, 1) := by decide +kernel
def f_Wa_become  (x_p1_lamps : Int32) (x_p1_picture : Int32) (x_p1_night : Int32) (x_p1_spent : Int32) (x_o_lamps : Int32) (x_o_picture : Int32) (x_o_night : Int32) (x_o_spent : Int32) (x_o_had_words : Nat → Int64) (x_p1_had_words : Nat → Int64) (x_o_told_words : Nat → Int64) (x_p1_told_words : Nat → Int64) (x_p1_last : Nat → Int32) (x_o_last : Nat → Int32) (x_p1_often : Nat → Int32) (x_o_often : Nat → Int32) : Option (Int32 × Int32 × Int32 × Int32 × (Nat → Int64) × (Nat → Int64) × (Nat → Int32) × (Nat → Int32)) :=
  (f_Pi_become  x_o_had_words x_p1_had_words).bind fun u1 =>
  (f_Pi_become  x_o_told_words x_p1_told_words).bind fun u3 =>
  if (0 : Int32) < 0 ∨ (0 : Int32) < 0 ∨ (10 : Int32) < 0 ∨ 10 < Int32.toNatClampNeg (0 : Int32) + Int32.toNatClampNeg (10 : Int32) ∨ 10 < Int32.toNatClampNeg (0 : Int32) + Int32.toNatClampNeg (10 : Int32) then none else
  if (0 : Int32) < 0 ∨ (0 : Int32) < 0 ∨ (10 : Int32) < 0 ∨ 10 < Int32.toNatClampNeg (0 : Int32) + Int32.toNatClampNeg (10 : Int32) ∨ 10 < Int32.toNatClampNeg (0 : Int32) + Int32.toNatClampNeg (10 : Int32) then none else
  some (x_p1_lamps, x_p1_picture, x_p1_night, x_p1_spent, u1, u3, (va_cpy x_p1_last x_o_last (Int32.toNatClampNeg (0 : Int32)) (Int32.toNatClampNeg (0 : Int32)) (Int32.toNatClampNeg (10 : Int32))), (va_cpy x_p1_often x_o_often (Int32.toNatClampNeg (0 : Int32)) (Int32.toNatClampNeg (0 : Int32)) (Int32.toNatClampNeg (10 : Int32))))
set_option maxRecDepth 20000 in
theorem c_Wa_become {l : Launch} {D : va_G} {dA : Nat → ClassId} {a_o a_p1 a_p1_had a_p1_told a_p1_last a_p1_often a_o_had a_o_told a_o_last a_o_often a_p1_had_words a_o_had_words a_p1_told_words a_o_told_words : Nat}  {x_p1_lamps : Int32} {x_p1_picture : Int32} {x_p1_night : Int32} {x_p1_spent : Int32} {x_o_lamps : Int32} {x_o_picture : Int32} {x_o_night : Int32} {x_o_spent : Int32} {x_o_had_words : Nat → Int64} {x_p1_had_words : Nat → Int64} {x_o_told_words : Nat → Int64} {x_p1_told_words : Nat → Int64} {x_p1_last : Nat → Int32} {x_o_last : Nat → Int32} {x_p1_often : Nat → Int32} {x_o_often : Nat → Int32} {o_x_o_lamps : Int32} {o_x_o_picture : Int32} {o_x_o_night : Int32} {o_x_o_spent : Int32} {o_x_o_had_words : Nat → Int64} {o_x_o_told_words : Nat → Int64} {o_x_o_last : Nat → Int32} {o_x_o_often : Nat → Int32}   (hf : f_Wa_become  x_p1_lamps x_p1_picture x_p1_night x_p1_spent x_o_lamps x_o_picture x_o_night x_o_spent x_o_had_words x_p1_had_words x_o_told_words x_p1_told_words x_p1_last x_o_last x_p1_often x_o_often = some (o_x_o_lamps, o_x_o_picture, o_x_o_night, o_x_o_spent, o_x_o_had_words, o_x_o_told_words, o_x_o_last, o_x_o_often)) : CT l y_Wa_become prog_11_method_5_code 2 none { frames := 2, cells := 0, slots := 0, locals := 61 } D dA [.ref a_o, .ref a_p1] [O_Wa a_p1 x_p1_lamps x_p1_picture x_p1_night x_p1_spent a_p1_had a_p1_told a_p1_last a_p1_often, O_Wa a_o x_o_lamps x_o_picture x_o_night x_o_spent a_o_had a_o_told a_o_last a_o_often, O_Pi a_p1_had a_p1_had_words, O_Pi a_o_had a_o_had_words, A_J dA a_o_had_words 16 x_o_had_words, A_J dA a_p1_had_words 16 x_p1_had_words, O_Pi a_p1_told a_p1_told_words, O_Pi a_o_told a_o_told_words, A_J dA a_o_told_words 16 x_o_told_words, A_J dA a_p1_told_words 16 x_p1_told_words, A_I dA a_p1_last 10 x_p1_last, A_I dA a_o_last 10 x_o_last, A_I dA a_p1_often 10 x_p1_often, A_I dA a_o_often 10 x_o_often] none (fun _ : Unit => [O_Wa a_p1 x_p1_lamps x_p1_picture x_p1_night x_p1_spent a_p1_had a_p1_told a_p1_last a_p1_often, O_Wa a_o o_x_o_lamps o_x_o_picture o_x_o_night o_x_o_spent a_o_had a_o_told a_o_last a_o_often, O_Pi a_p1_had a_p1_had_words, O_Pi a_o_had a_o_had_words, A_J dA a_o_had_words 16 o_x_o_had_words, A_J dA a_p1_had_words 16 x_p1_had_words, O_Pi a_p1_told a_p1_told_words, O_Pi a_o_told a_o_told_words, A_J dA a_o_told_words 16 o_x_o_told_words, A_J dA a_p1_told_words 16 x_p1_told_words, A_I dA a_p1_last 10 x_p1_last, A_I dA a_o_last 10 o_x_o_last, A_I dA a_p1_often 10 x_p1_often, A_I dA a_o_often 10 o_x_o_often]) := by
  refine ct_intro "OneLamp$Wall" rfl (by decide +kernel) (Nat.le_of_ble_eq_true rfl) [(0, .ref a_o), (1, .ref a_p1)] rfl (fun _ C => ?_)
  unfold f_Wa_become at hf
  refine g_aload_n (pc' := 1) C 0 d_Wa_become_0 rfl rfl ?_
  refine g_aload_n (pc' := 2) C 1 d_Wa_become_1 rfl rfl ?_
  refine g_get (pc' := 5) C kf_Wa 0 mw_1_63 d_Wa_become_2 rfl 0 rfl (by decide) rfl ?_
  refine g_put (pc' := 8) (ws' := [O_Wa a_p1 x_p1_lamps x_p1_picture x_p1_night x_p1_spent a_p1_had a_p1_told a_p1_last a_p1_often, O_Wa a_o x_p1_lamps x_o_picture x_o_night x_o_spent a_o_had a_o_told a_o_last a_o_often, O_Pi a_p1_had a_p1_had_words, O_Pi a_o_had a_o_had_words, A_J dA a_o_had_words 16 x_o_had_words, A_J dA a_p1_had_words 16 x_p1_had_words, O_Pi a_p1_told a_p1_told_words, O_Pi a_o_told a_o_told_words, A_J dA a_o_told_words 16 x_o_told_words, A_J dA a_p1_told_words 16 x_p1_told_words, A_I dA a_p1_last 10 x_p1_last, A_I dA a_o_last 10 x_o_last, A_I dA a_p1_often 10 x_p1_often, A_I dA a_o_often 10 x_o_often]) C kf_Wa 0 mw_1_63 d_Wa_become_5 rfl 1 rfl (by decide) rfl rfl rfl (Nat.le_of_ble_eq_true rfl) rfl ?_
  refine g_aload_n (pc' := 9) C 0 d_Wa_become_8 rfl rfl ?_
  refine g_aload_n (pc' := 10) C 1 d_Wa_become_9 rfl rfl ?_
  refine g_get (pc' := 13) C kf_Wa 1 mw_1_67 d_Wa_become_10 rfl 0 rfl (by decide) rfl ?_
  refine g_put (pc' := 16) (ws' := [O_Wa a_p1 x_p1_lamps x_p1_picture x_p1_night x_p1_spent a_p1_had a_p1_told a_p1_last a_p1_often, O_Wa a_o x_p1_lamps x_p1_picture x_o_night x_o_spent a_o_had a_o_told a_o_last a_o_often, O_Pi a_p1_had a_p1_had_words, O_Pi a_o_had a_o_had_words, A_J dA a_o_had_words 16 x_o_had_words, A_J dA a_p1_had_words 16 x_p1_had_words, O_Pi a_p1_told a_p1_told_words, O_Pi a_o_told a_o_told_words, A_J dA a_o_told_words 16 x_o_told_words, A_J dA a_p1_told_words 16 x_p1_told_words, A_I dA a_p1_last 10 x_p1_last, A_I dA a_o_last 10 x_o_last, A_I dA a_p1_often 10 x_p1_often, A_I dA a_o_often 10 x_o_often]) C kf_Wa 1 mw_1_67 d_Wa_become_13 rfl 1 rfl (by decide) rfl rfl rfl (Nat.le_of_ble_eq_true rfl) rfl ?_
  refine g_aload_n (pc' := 17) C 0 d_Wa_become_16 rfl rfl ?_
  refine g_aload_n (pc' := 18) C 1 d_Wa_become_17 rfl rfl ?_
  refine g_get (pc' := 21) C kf_Wa 2 mw_1_71 d_Wa_become_18 rfl 0 rfl (by decide) rfl ?_
  refine g_put (pc' := 24) (ws' := [O_Wa a_p1 x_p1_lamps x_p1_picture x_p1_night x_p1_spent a_p1_had a_p1_told a_p1_last a_p1_often, O_Wa a_o x_p1_lamps x_p1_picture x_p1_night x_o_spent a_o_had a_o_told a_o_last a_o_often, O_Pi a_p1_had a_p1_had_words, O_Pi a_o_had a_o_had_words, A_J dA a_o_had_words 16 x_o_had_words, A_J dA a_p1_had_words 16 x_p1_had_words, O_Pi a_p1_told a_p1_told_words, O_Pi a_o_told a_o_told_words, A_J dA a_o_told_words 16 x_o_told_words, A_J dA a_p1_told_words 16 x_p1_told_words, A_I dA a_p1_last 10 x_p1_last, A_I dA a_o_last 10 x_o_last, A_I dA a_p1_often 10 x_p1_often, A_I dA a_o_often 10 x_o_often]) C kf_Wa 2 mw_1_71 d_Wa_become_21 rfl 1 rfl (by decide) rfl rfl rfl (Nat.le_of_ble_eq_true rfl) rfl ?_
  refine g_aload_n (pc' := 25) C 0 d_Wa_become_24 rfl rfl ?_
  refine g_aload_n (pc' := 26) C 1 d_Wa_become_25 rfl rfl ?_
  refine g_get (pc' := 29) C kf_Wa 3 mw_1_74 d_Wa_become_26 rfl 0 rfl (by decide) rfl ?_
  refine g_put (pc' := 32) (ws' := [O_Wa a_p1 x_p1_lamps x_p1_picture x_p1_night x_p1_spent a_p1_had a_p1_told a_p1_last a_p1_often, O_Wa a_o x_p1_lamps x_p1_picture x_p1_night x_p1_spent a_o_had a_o_told a_o_last a_o_often, O_Pi a_p1_had a_p1_had_words, O_Pi a_o_had a_o_had_words, A_J dA a_o_had_words 16 x_o_had_words, A_J dA a_p1_had_words 16 x_p1_had_words, O_Pi a_p1_told a_p1_told_words, O_Pi a_o_told a_o_told_words, A_J dA a_o_told_words 16 x_o_told_words, A_J dA a_p1_told_words 16 x_p1_told_words, A_I dA a_p1_last 10 x_p1_last, A_I dA a_o_last 10 x_o_last, A_I dA a_p1_often 10 x_p1_often, A_I dA a_o_often 10 x_o_often]) C kf_Wa 3 mw_1_74 d_Wa_become_29 rfl 1 rfl (by decide) rfl rfl rfl (Nat.le_of_ble_eq_true rfl) rfl ?_
  refine g_aload_n (pc' := 33) C 0 d_Wa_become_32 rfl rfl ?_
  refine g_get (pc' := 36) C kf_Wa 4 mw_1_76 d_Wa_become_33 rfl 1 rfl (by decide) rfl ?_
  refine g_aload_n (pc' := 37) C 1 d_Wa_become_36 rfl rfl ?_
  refine g_get (pc' := 40) C kf_Wa 4 mw_1_76 d_Wa_become_37 rfl 0 rfl (by decide) rfl ?_
  replace hf := g_bi hf; obtain ⟨u1, hc2, hf⟩ := hf
  refine g_callV (pc' := 43) (st1 := []) (ws1 := [O_Wa a_p1 x_p1_lamps x_p1_picture x_p1_night x_p1_spent a_p1_had a_p1_told a_p1_last a_p1_often, O_Wa a_o x_p1_lamps x_p1_picture x_p1_night x_p1_spent a_o_had a_o_told a_o_last a_o_often, O_Pi a_p1_had a_p1_had_words, O_Pi a_o_had a_o_had_words, A_J dA a_o_had_words 16 u1, A_J dA a_p1_had_words 16 x_p1_had_words, O_Pi a_p1_told a_p1_told_words, O_Pi a_o_told a_o_told_words, A_J dA a_o_told_words 16 x_o_told_words, A_J dA a_p1_told_words 16 x_p1_told_words, A_I dA a_p1_last 10 x_p1_last, A_I dA a_o_last 10 x_o_last, A_I dA a_p1_often 10 x_p1_often, A_I dA a_o_often 10 x_o_often]) C (c_Pi_become (l := l) (D := D) (dA := dA) (a_o := a_o_had) (a_p1 := a_p1_had) (a_p1_words := a_p1_had_words) (a_o_words := a_o_had_words)   hc2) yy_Pi_become kf_Pi rfl mw_3_91 d_Wa_become_40 rfl [] rfl rfl (Nat.le_of_ble_eq_true rfl) ⟨Nat.le_of_ble_eq_true rfl, Nat.le_of_ble_eq_true rfl⟩ rfl rfl (Nat.zero_le _) (Nat.zero_le _) 3 rfl [2, 3, 4, 5] rfl (by decide +kernel) rfl (g_lay_sel _ _ _ _ [(0, false), (1, false), (0, true), (1, true), (2, true), (3, true), (6, false), (7, false), (8, false), (9, false), (10, false), (11, false), (12, false), (13, false)] (by decide +kernel) rfl (by decide +kernel) rfl rfl) rfl ?_
  refine g_aload_n (pc' := 44) C 0 d_Wa_become_43 rfl rfl ?_
  refine g_get (pc' := 47) C kf_Wa 5 mw_1_80 d_Wa_become_44 rfl 1 rfl (by decide) rfl ?_
  refine g_aload_n (pc' := 48) C 1 d_Wa_become_47 rfl rfl ?_
  refine g_get (pc' := 51) C kf_Wa 5 mw_1_80 d_Wa_become_48 rfl 0 rfl (by decide) rfl ?_
  replace hf := g_bi hf; obtain ⟨u3, hc4, hf⟩ := hf
  refine g_callV (pc' := 54) (st1 := []) (ws1 := [O_Wa a_p1 x_p1_lamps x_p1_picture x_p1_night x_p1_spent a_p1_had a_p1_told a_p1_last a_p1_often, O_Wa a_o x_p1_lamps x_p1_picture x_p1_night x_p1_spent a_o_had a_o_told a_o_last a_o_often, O_Pi a_p1_had a_p1_had_words, O_Pi a_o_had a_o_had_words, A_J dA a_o_had_words 16 u1, A_J dA a_p1_had_words 16 x_p1_had_words, O_Pi a_p1_told a_p1_told_words, O_Pi a_o_told a_o_told_words, A_J dA a_o_told_words 16 u3, A_J dA a_p1_told_words 16 x_p1_told_words, A_I dA a_p1_last 10 x_p1_last, A_I dA a_o_last 10 x_o_last, A_I dA a_p1_often 10 x_p1_often, A_I dA a_o_often 10 x_o_often]) C (c_Pi_become (l := l) (D := D) (dA := dA) (a_o := a_o_told) (a_p1 := a_p1_told) (a_p1_words := a_p1_told_words) (a_o_words := a_o_told_words)   hc4) yy_Pi_become kf_Pi rfl mw_3_91 d_Wa_become_51 rfl [] rfl rfl (Nat.le_of_ble_eq_true rfl) ⟨Nat.le_of_ble_eq_true rfl, Nat.le_of_ble_eq_true rfl⟩ rfl rfl (Nat.zero_le _) (Nat.zero_le _) 7 rfl [6, 7, 8, 9] rfl (by decide +kernel) rfl (g_lay_sel _ _ _ _ [(0, false), (1, false), (2, false), (3, false), (4, false), (5, false), (0, true), (1, true), (2, true), (3, true), (10, false), (11, false), (12, false), (13, false)] (by decide +kernel) rfl (by decide +kernel) rfl rfl) rfl ?_
  refine g_aload_n (pc' := 55) C 1 d_Wa_become_54 rfl rfl ?_
  refine g_get (pc' := 58) C kf_Wa 6 mw_1_83 d_Wa_become_55 rfl 0 rfl (by decide) rfl ?_
  refine g_iconst (pc' := 59) (v := 0) C d_Wa_become_58 rfl rfl ?_
  refine g_aload_n (pc' := 60) C 0 d_Wa_become_59 rfl rfl ?_
  refine g_get (pc' := 63) C kf_Wa 6 mw_1_83 d_Wa_become_60 rfl 1 rfl (by decide) rfl ?_
  refine g_iconst (pc' := 64) (v := 0) C d_Wa_become_63 rfl rfl ?_
  refine g_bipush (pc' := 66) (v := 10) C d_Wa_become_64 rfl rfl ?_
  have hb := g_cp (g_ck hf)
  replace hf := g_in (g_ck hf) hf
  refine g_copyi (pc' := 69) (ws' := [O_Wa a_p1 x_p1_lamps x_p1_picture x_p1_night x_p1_spent a_p1_had a_p1_told a_p1_last a_p1_often, O_Wa a_o x_p1_lamps x_p1_picture x_p1_night x_p1_spent a_o_had a_o_told a_o_last a_o_often, O_Pi a_p1_had a_p1_had_words, O_Pi a_o_had a_o_had_words, A_J dA a_o_had_words 16 u1, A_J dA a_p1_had_words 16 x_p1_had_words, O_Pi a_p1_told a_p1_told_words, O_Pi a_o_told a_o_told_words, A_J dA a_o_told_words 16 u3, A_J dA a_p1_told_words 16 x_p1_told_words, A_I dA a_p1_last 10 x_p1_last, A_I dA a_o_last 10 (va_cpy x_p1_last x_o_last (Int32.toNatClampNeg (0 : Int32)) (Int32.toNatClampNeg (0 : Int32)) (Int32.toNatClampNeg (10 : Int32))), A_I dA a_p1_often 10 x_p1_often, A_I dA a_o_often 10 x_o_often]) C mw_3_96 mw_2_173 mw_2_172 mw_1_13 d_Wa_become_66 rfl 10 11 rfl rfl hb.1 hb.2.1 hb.2.2.1 hb.2.2.2.1 hb.2.2.2.2 (Nat.le_of_ble_eq_true rfl) (Nat.le_of_ble_eq_true rfl) rfl ?_
  refine g_aload_n (pc' := 70) C 1 d_Wa_become_69 rfl rfl ?_
  refine g_get (pc' := 73) C kf_Wa 7 mw_1_84 d_Wa_become_70 rfl 0 rfl (by decide) rfl ?_
  refine g_iconst (pc' := 74) (v := 0) C d_Wa_become_73 rfl rfl ?_
  refine g_aload_n (pc' := 75) C 0 d_Wa_become_74 rfl rfl ?_
  refine g_get (pc' := 78) C kf_Wa 7 mw_1_84 d_Wa_become_75 rfl 1 rfl (by decide) rfl ?_
  refine g_iconst (pc' := 79) (v := 0) C d_Wa_become_78 rfl rfl ?_
  refine g_bipush (pc' := 81) (v := 10) C d_Wa_become_79 rfl rfl ?_
  have hb := g_cp (g_ck hf)
  replace hf := g_in (g_ck hf) hf
  refine g_copyi (pc' := 84) (ws' := [O_Wa a_p1 x_p1_lamps x_p1_picture x_p1_night x_p1_spent a_p1_had a_p1_told a_p1_last a_p1_often, O_Wa a_o x_p1_lamps x_p1_picture x_p1_night x_p1_spent a_o_had a_o_told a_o_last a_o_often, O_Pi a_p1_had a_p1_had_words, O_Pi a_o_had a_o_had_words, A_J dA a_o_had_words 16 u1, A_J dA a_p1_had_words 16 x_p1_had_words, O_Pi a_p1_told a_p1_told_words, O_Pi a_o_told a_o_told_words, A_J dA a_o_told_words 16 u3, A_J dA a_p1_told_words 16 x_p1_told_words, A_I dA a_p1_last 10 x_p1_last, A_I dA a_o_last 10 (va_cpy x_p1_last x_o_last (Int32.toNatClampNeg (0 : Int32)) (Int32.toNatClampNeg (0 : Int32)) (Int32.toNatClampNeg (10 : Int32))), A_I dA a_p1_often 10 x_p1_often, A_I dA a_o_often 10 (va_cpy x_p1_often x_o_often (Int32.toNatClampNeg (0 : Int32)) (Int32.toNatClampNeg (0 : Int32)) (Int32.toNatClampNeg (10 : Int32)))]) C mw_3_96 mw_2_173 mw_2_172 mw_1_13 d_Wa_become_81 rfl 12 13 rfl rfl hb.1 hb.2.1 hb.2.2.1 hb.2.2.2.1 hb.2.2.2.2 (Nat.le_of_ble_eq_true rfl) (Nat.le_of_ble_eq_true rfl) rfl ?_
  replace hf := g_o2 hf; obtain ⟨h1, hf⟩ := hf; subst h1
  replace hf := g_o2 hf; obtain ⟨h1, hf⟩ := hf; subst h1
  replace hf := g_o2 hf; obtain ⟨h1, hf⟩ := hf; subst h1
  replace hf := g_o2 hf; obtain ⟨h1, hf⟩ := hf; subst h1
  replace hf := g_o2 hf; obtain ⟨h1, hf⟩ := hf; subst h1
  replace hf := g_o2 hf; obtain ⟨h1, hf⟩ := hf; subst h1
  replace hf := g_o2 hf; obtain ⟨h1, hf⟩ := hf; subst h1
  replace hf := Option.some.inj hf; subst hf
  exact g_vret C d_Wa_become_84 () rfl
def y_Wa_lastOf : MethodName := ⟨"OneLamp$Wall", "lastOf", "(I)I"⟩
theorem yy_Wa_lastOf : YV y_Wa_lastOf prog_11_method_6_code 2 (some .int) 1 := ⟨mw_3_44, mw_1_2, mw_3_42, mw_3_43, by decide +kernel, by decide +kernel, by decide +kernel⟩
theorem d_Wa_lastOf_0 : decode prog_11_method_6_code 0 = .ok (.aload_n 0, 1) := by decide +kernel
theorem d_Wa_lastOf_1 : decode prog_11_method_6_code 1 = .ok (.iload_n 1, 1) := by decide +kernel
theorem d_Wa_lastOf_2 : decode prog_11_method_6_code 2 = .ok (.invokevirtual 67, 3) := by decide +kernel
theorem d_Wa_lastOf_5 : decode prog_11_method_6_code 5 = .ok (.ifCond .eq 12, 3) := by decide +kernel
theorem d_Wa_lastOf_8 : decode prog_11_method_6_code 8 = .ok (.aload_n 0, 1) := by decide +kernel
theorem d_Wa_lastOf_9 : decode prog_11_method_6_code 9 = .ok (.getfield 25, 3) := by decide +kernel
theorem d_Wa_lastOf_12 : decode prog_11_method_6_code 12 = .ok (.iload_n 1, 1) := by decide +kernel
theorem d_Wa_lastOf_13 : decode prog_11_method_6_code 13 = .ok (.iaload, 1) := by decide +kernel
theorem d_Wa_lastOf_14 : decode prog_11_method_6_code 14 = .ok (.goto 5, 3) := by decide +kernel
theorem d_Wa_lastOf_17 : decode prog_11_method_6_code 17 = .ok (.bipush (-2), 2) := by decide +kernel
theorem d_Wa_lastOf_19 : decode prog_11_method_6_code 19 = .ok (.ireturn, 1) := by decide +kernel
def f_Wa_lastOf  (p1 : Int32) (x_o_lamps : Int32) (x_o_last : Nat → Int32) : Option (Int32) :=
  (f_Wa_hasLamp  p1 x_o_lamps).bind fun r1 =>
  if r1 = true then
    (if p1 < 0 ∨ 10 ≤ Int32.toNatClampNeg p1 then none else
    some ((x_o_last (Int32.toNatClampNeg p1))))
  else
    (some ((-2 : Int32)))
set_option maxRecDepth 20000 in
theorem c_Wa_lastOf {l : Launch} {D : va_G} {dA : Nat → ClassId} {a_o a_o_had a_o_told a_o_last a_o_often : Nat} {x_o_picture : Int32} {x_o_night : Int32} {x_o_spent : Int32} {p1 : Int32} {x_o_lamps : Int32} {x_o_last : Nat → Int32} {r0 : Int32}   (hf : f_Wa_lastOf  p1 x_o_lamps x_o_last = some r0) : CT l y_Wa_lastOf prog_11_method_6_code 2 (some .int) { frames := 1, cells := 0, slots := 0, locals := 21 } D dA [.ref a_o, .int p1] [O_Wa a_o x_o_lamps x_o_picture x_o_night x_o_spent a_o_had a_o_told a_o_last a_o_often, A_I dA a_o_last 10 x_o_last] (some (.int r0)) (fun _ : Unit => [O_Wa a_o x_o_lamps x_o_picture x_o_night x_o_spent a_o_had a_o_told a_o_last a_o_often, A_I dA a_o_last 10 x_o_last]) := by
  refine ct_intro "OneLamp$Wall" rfl (by decide +kernel) (Nat.le_of_ble_eq_true rfl) [(0, .ref a_o), (1, .int p1)] rfl (fun _ C => ?_)
  unfold f_Wa_lastOf at hf
  refine g_aload_n (pc' := 1) C 0 d_Wa_lastOf_0 rfl rfl ?_
  refine g_iload_n (pc' := 2) C 1 d_Wa_lastOf_1 rfl rfl ?_
  replace hf := g_bi hf; obtain ⟨r1, hc2, hf⟩ := hf
  refine g_callV (pc' := 5) (st1 := [.int (b2i r1)]) (ws1 := [O_Wa a_o x_o_lamps x_o_picture x_o_night x_o_spent a_o_had a_o_told a_o_last a_o_often, A_I dA a_o_last 10 x_o_last]) C (c_Wa_hasLamp (l := l) (D := D) (dA := dA) (a_o := a_o) (a_o_had := a_o_had) (a_o_told := a_o_told) (a_o_last := a_o_last) (a_o_often := a_o_often) (x_o_picture := x_o_picture) (x_o_night := x_o_night) (x_o_spent := x_o_spent)   hc2) yy_Wa_hasLamp kf_Wa rfl mw_3_40 d_Wa_lastOf_2 rfl [] rfl rfl (Nat.le_of_ble_eq_true rfl) ⟨Nat.le_of_ble_eq_true rfl, Nat.le_of_ble_eq_true rfl⟩ rfl rfl (Nat.zero_le _) (Nat.zero_le _) 0 rfl [0] rfl (by decide +kernel) rfl (g_lay_sel _ _ _ _ [(0, true), (1, false)] (by decide +kernel) rfl (by decide +kernel) rfl rfl) rfl ?_
  refine g_if_eqb (pc' := 8) (tgt := 17) C d_Wa_lastOf_5 rfl rfl (fun h => ?_) (fun h => ?_)
  · replace hf := g_bf h hf
    refine g_bipush (pc' := 19) (v := (-2)) C d_Wa_lastOf_17 rfl rfl ?_
    replace hf := Option.some.inj hf; subst hf
    exact g_iret C d_Wa_lastOf_19 () rfl
  · replace hf := g_bt h hf
    refine g_aload_n (pc' := 9) C 0 d_Wa_lastOf_8 rfl rfl ?_
    refine g_get (pc' := 12) C kf_Wa 6 mw_1_83 d_Wa_lastOf_9 rfl 0 rfl (by decide) rfl ?_
    refine g_iload_n (pc' := 13) C 1 d_Wa_lastOf_12 rfl rfl ?_
    have hb := g_ck hf
    replace hf := g_in hb hf
    refine g_iald (pc' := 14) C d_Wa_lastOf_13 rfl 1 rfl hb ?_
    refine g_goto (tgt := 19) C d_Wa_lastOf_14 rfl ?_
    replace hf := Option.some.inj hf; subst hf
    exact g_iret C d_Wa_lastOf_19 () rfl
def y_Wa_oftenOf : MethodName := ⟨"OneLamp$Wall", "oftenOf", "(I)I"⟩
theorem yy_Wa_oftenOf : YV y_Wa_oftenOf prog_11_method_7_code 2 (some .int) 1 := ⟨mw_3_39, mw_1_2, mw_3_37, mw_3_38, by decide +kernel, by decide +kernel, by decide +kernel⟩
theorem d_Wa_oftenOf_0 : decode prog_11_method_7_code 0 = .ok (.aload_n 0, 1) := by decide +kernel
theorem d_Wa_oftenOf_1 : decode prog_11_method_7_code 1 = .ok (.iload_n 1, 1) := by decide +kernel
theorem d_Wa_oftenOf_2 : decode prog_11_method_7_code 2 = .ok (.invokevirtual 67, 3) := by decide +kernel
theorem d_Wa_oftenOf_5 : decode prog_11_method_7_code 5 = .ok (.ifCond .eq 12, 3) := by decide +kernel
theorem d_Wa_oftenOf_8 : decode prog_11_method_7_code 8 = .ok (.aload_n 0, 1) := by decide +kernel
theorem d_Wa_oftenOf_9 : decode prog_11_method_7_code 9 = .ok (.getfield 29, 3) := by decide +kernel
theorem d_Wa_oftenOf_12 : decode prog_11_method_7_code 12 = .ok (.iload_n 1, 1) := by decide +kernel
theorem d_Wa_oftenOf_13 : decode prog_11_method_7_code 13 = .ok (.iaload, 1) := by decide +kernel
theorem d_Wa_oftenOf_14 : decode prog_11_method_7_code 14 = .ok (.goto 4, 3) := by decide +kernel
theorem d_Wa_oftenOf_17 : decode prog_11_method_7_code 17 = .ok (.iconst 0, 1) := by decide +kernel
theorem d_Wa_oftenOf_18 : decode prog_11_method_7_code 18 = .ok (.ireturn, 1) := by decide +kernel
def f_Wa_oftenOf  (p1 : Int32) (x_o_lamps : Int32) (x_o_often : Nat → Int32) : Option (Int32) :=
  (f_Wa_hasLamp  p1 x_o_lamps).bind fun r1 =>
  if r1 = true then
    (if p1 < 0 ∨ 10 ≤ Int32.toNatClampNeg p1 then none else
    some ((x_o_often (Int32.toNatClampNeg p1))))
  else
    (some ((0 : Int32)))
set_option maxRecDepth 20000 in
theorem c_Wa_oftenOf {l : Launch} {D : va_G} {dA : Nat → ClassId} {a_o a_o_had a_o_told a_o_last a_o_often : Nat} {x_o_picture : Int32} {x_o_night : Int32} {x_o_spent : Int32} {p1 : Int32} {x_o_lamps : Int32} {x_o_often : Nat → Int32} {r0 : Int32}   (hf : f_Wa_oftenOf  p1 x_o_lamps x_o_often = some r0) : CT l y_Wa_oftenOf prog_11_method_7_code 2 (some .int) { frames := 1, cells := 0, slots := 0, locals := 21 } D dA [.ref a_o, .int p1] [O_Wa a_o x_o_lamps x_o_picture x_o_night x_o_spent a_o_had a_o_told a_o_last a_o_often, A_I dA a_o_often 10 x_o_often] (some (.int r0)) (fun _ : Unit => [O_Wa a_o x_o_lamps x_o_picture x_o_night x_o_spent a_o_had a_o_told a_o_last a_o_often, A_I dA a_o_often 10 x_o_often]) := by
  refine ct_intro "OneLamp$Wall" rfl (by decide +kernel) (Nat.le_of_ble_eq_true rfl) [(0, .ref a_o), (1, .int p1)] rfl (fun _ C => ?_)
  unfold f_Wa_oftenOf at hf
  refine g_aload_n (pc' := 1) C 0 d_Wa_oftenOf_0 rfl rfl ?_
  refine g_iload_n (pc' := 2) C 1 d_Wa_oftenOf_1 rfl rfl ?_
  replace hf := g_bi hf; obtain ⟨r1, hc2, hf⟩ := hf
  refine g_callV (pc' := 5) (st1 := [.int (b2i r1)]) (ws1 := [O_Wa a_o x_o_lamps x_o_picture x_o_night x_o_spent a_o_had a_o_told a_o_last a_o_often, A_I dA a_o_often 10 x_o_often]) C (c_Wa_hasLamp (l := l) (D := D) (dA := dA) (a_o := a_o) (a_o_had := a_o_had) (a_o_told := a_o_told) (a_o_last := a_o_last) (a_o_often := a_o_often) (x_o_picture := x_o_picture) (x_o_night := x_o_night) (x_o_spent := x_o_spent)   hc2) yy_Wa_hasLamp kf_Wa rfl mw_3_40 d_Wa_oftenOf_2 rfl [] rfl rfl (Nat.le_of_ble_eq_true rfl) ⟨Nat.le_of_ble_eq_true rfl, Nat.le_of_ble_eq_true rfl⟩ rfl rfl (Nat.zero_le _) (Nat.zero_le _) 0 rfl [0] rfl (by decide +kernel) rfl (g_lay_sel _ _ _ _ [(0, true), (1, false)] (by decide +kernel) rfl (by decide +kernel) rfl rfl) rfl ?_
  refine g_if_eqb (pc' := 8) (tgt := 17) C d_Wa_oftenOf_5 rfl rfl (fun h => ?_) (fun h => ?_)
  · replace hf := g_bf h hf
    refine g_iconst (pc' := 18) (v := 0) C d_Wa_oftenOf_17 rfl rfl ?_
    replace hf := Option.some.inj hf; subst hf
    exact g_iret C d_Wa_oftenOf_18 () rfl
  · replace hf := g_bt h hf
    refine g_aload_n (pc' := 9) C 0 d_Wa_oftenOf_8 rfl rfl ?_
    refine g_get (pc' := 12) C kf_Wa 7 mw_1_84 d_Wa_oftenOf_9 rfl 0 rfl (by decide) rfl ?_
    refine g_iload_n (pc' := 13) C 1 d_Wa_oftenOf_12 rfl rfl ?_
    have hb := g_ck hf
    replace hf := g_in hb hf
    refine g_iald (pc' := 14) C d_Wa_oftenOf_13 rfl 1 rfl hb ?_
    refine g_goto (tgt := 18) C d_Wa_oftenOf_14 rfl ?_
    replace hf := Option.some.inj hf; subst hf
    exact g_iret C d_Wa_oftenOf_18 () rfl
def y_Wa_step : MethodName := ⟨"OneLamp$Wall", "step", "(I)V"⟩
theorem yy_Wa_step : YV y_Wa_step prog_11_method_8_code 2 none 1 := ⟨mw_3_70, mw_1_2, mw_3_68, mw_3_69, by decide +kernel, by decide +kernel, by decide +kernel⟩
theorem d_Wa_step_0 : decode prog_11_method_8_code 0 = .ok (.aload_n 0, 1) := by decide +kernel
theorem d_Wa_step_1 : decode prog_11_method_8_code 1 = .ok (.iload_n 1, 1) := by decide +kernel
theorem d_Wa_step_2 : decode prog_11_method_8_code 2 = .ok (.invokevirtual 67, 3) := by decide +kernel
theorem d_Wa_step_5 : decode prog_11_method_8_code 5 = .ok (.ifCond .eq 46, 3) := by decide +kernel
theorem d_Wa_step_8 : decode prog_11_method_8_code 8 = .ok (.aload_n 0, 1) := by decide +kernel
theorem d_Wa_step_9 : decode prog_11_method_8_code 9 = .ok (.dup, 1) := by decide +kernel
theorem d_Wa_step_10 : decode prog_11_method_8_code 10 = .ok (.getfield 36, 3) := by decide +kernel
theorem d_Wa_step_13 : decode prog_11_method_8_code 13 = .ok (.iconst 1, 1) := by decide +kernel
theorem d_Wa_step_14 : decode prog_11_method_8_code 14 = .ok (.iload_n 1, 1) := by decide +kernel
theorem d_Wa_step_15 : decode prog_11_method_8_code 15 = .ok (.ishl, 1) := by decide +kernel
theorem d_Wa_step_16 : decode prog_11_method_8_code 16 = .ok (.ixor, 1) := by decide +kernel
theorem d_Wa_step_17 : decode prog_11_method_8_code 17 = .ok (.putfield 36, 3) := by decide +kernel
theorem d_Wa_step_20 : decode prog_11_method_8_code 20 = .ok (.aload_n 0, 1) := by decide +kernel
theorem d_Wa_step_21 : decode prog_11_method_8_code 21 = .ok (.dup, 1) := by decide +kernel
theorem d_Wa_step_22 : decode prog_11_method_8_code 22 = .ok (.getfield 39, 3) := by decide +kernel
theorem d_Wa_step_25 : decode prog_11_method_8_code 25 = .ok (.iconst 1, 1) := by decide +kernel
theorem d_Wa_step_26 : decode prog_11_method_8_code 26 = .ok (.iadd, 1) := by decide +kernel
theorem d_Wa_step_27 : decode prog_11_method_8_code 27 = .ok (.putfield 39, 3) := by decide +kernel
theorem d_Wa_step_30 : decode prog_11_method_8_code 30 = .ok (.aload_n 0, 1) := by decide +kernel
theorem d_Wa_step_31 : decode prog_11_method_8_code 31 = .ok (.getfield 25, 3) := by decide +kernel
theorem d_Wa_step_34 : decode prog_11_method_8_code 34 = .ok (.iload_n 1, 1) := by decide +kernel
theorem d_Wa_step_35 : decode prog_11_method_8_code 35 = .ok (.aload_n 0, 1) := by decide +kernel
theorem d_Wa_step_36 : decode prog_11_method_8_code 36 = .ok (.getfield 39, 3) := by decide +kernel
theorem d_Wa_step_39 : decode prog_11_method_8_code 39 = .ok (.iastore, 1) := by decide +kernel
theorem d_Wa_step_40 : decode prog_11_method_8_code 40 = .ok (.aload_n 0, 1) := by decide +kernel
theorem d_Wa_step_41 : decode prog_11_method_8_code 41 = .ok (.getfield 18, 3) := by decide +kernel
theorem d_Wa_step_44 : decode prog_11_method_8_code 44 = .ok (.aload_n 0, 1) := by decide +kernel
theorem d_Wa_step_45 : decode prog_11_method_8_code 45 = .ok (.getfield 36, 3) := by decide +kernel
theorem d_Wa_step_48 : decode prog_11_method_8_code 48 = .ok (.invokevirtual 48, 3) := by decide +kernel
theorem d_Wa_step_51 : decode prog_11_method_8_code 51 = .ok (.return_, 1) := by decide +kernel
def f_Wa_step  (p1 : Int32) (x_o_lamps : Int32) (x_o_picture : Int32) (x_o_night : Int32) (x_o_last : Nat → Int32) (x_o_had_words : Nat → Int64) : Option (Int32 × Int32 × (Nat → Int32) × (Nat → Int64)) :=
  (f_Wa_hasLamp  p1 x_o_lamps).bind fun r1 =>
  if r1 = true then
    (if p1 < 0 ∨ 10 ≤ Int32.toNatClampNeg p1 then none else
    (f_Pi_add  (x_o_picture ^^^ ((1 : Int32) <<< (p1 &&& 31))) x_o_had_words).bind fun u3 =>
    some ((x_o_picture ^^^ ((1 : Int32) <<< (p1 &&& 31))), (x_o_night + (1 : Int32)), (upd x_o_last (Int32.toNatClampNeg p1) (x_o_night + (1 : Int32))), u3))
  else
    (some (x_o_picture, x_o_night, x_o_last, x_o_had_words))
set_option maxRecDepth 20000 in
theorem c_Wa_step {l : Launch} {D : va_G} {dA : Nat → ClassId} {a_o a_o_had a_o_told a_o_last a_o_often a_o_had_words : Nat} {x_o_spent : Int32} {p1 : Int32} {x_o_lamps : Int32} {x_o_picture : Int32} {x_o_night : Int32} {x_o_last : Nat → Int32} {x_o_had_words : Nat → Int64} {o_x_o_picture : Int32} {o_x_o_night : Int32} {o_x_o_last : Nat → Int32} {o_x_o_had_words : Nat → Int64}   (hf : f_Wa_step  p1 x_o_lamps x_o_picture x_o_night x_o_last x_o_had_words = some (o_x_o_picture, o_x_o_night, o_x_o_last, o_x_o_had_words)) : CT l y_Wa_step prog_11_method_8_code 2 none { frames := 2, cells := 0, slots := 0, locals := 41 } D dA [.ref a_o, .int p1] [O_Wa a_o x_o_lamps x_o_picture x_o_night x_o_spent a_o_had a_o_told a_o_last a_o_often, A_I dA a_o_last 10 x_o_last, O_Pi a_o_had a_o_had_words, A_J dA a_o_had_words 16 x_o_had_words] none (fun _ : Unit => [O_Wa a_o x_o_lamps o_x_o_picture o_x_o_night x_o_spent a_o_had a_o_told a_o_last a_o_often, A_I dA a_o_last 10 o_x_o_last, O_Pi a_o_had a_o_had_words, A_J dA a_o_had_words 16 o_x_o_had_words]) := by
  refine ct_intro "OneLamp$Wall" rfl (by decide +kernel) (Nat.le_of_ble_eq_true rfl) [(0, .ref a_o), (1, .int p1)] rfl (fun _ C => ?_)
  unfold f_Wa_step at hf
  refine g_aload_n (pc' := 1) C 0 d_Wa_step_0 rfl rfl ?_
  refine g_iload_n (pc' := 2) C 1 d_Wa_step_1 rfl rfl ?_
  replace hf := g_bi hf; obtain ⟨r1, hc2, hf⟩ := hf
  refine g_callV (pc' := 5) (st1 := [.int (b2i r1)]) (ws1 := [O_Wa a_o x_o_lamps x_o_picture x_o_night x_o_spent a_o_had a_o_told a_o_last a_o_often, A_I dA a_o_last 10 x_o_last, O_Pi a_o_had a_o_had_words, A_J dA a_o_had_words 16 x_o_had_words]) C (c_Wa_hasLamp (l := l) (D := D) (dA := dA) (a_o := a_o) (a_o_had := a_o_had) (a_o_told := a_o_told) (a_o_last := a_o_last) (a_o_often := a_o_often) (x_o_picture := x_o_picture) (x_o_night := x_o_night) (x_o_spent := x_o_spent)   hc2) yy_Wa_hasLamp kf_Wa rfl mw_3_40 d_Wa_step_2 rfl [] rfl rfl (Nat.le_of_ble_eq_true rfl) ⟨Nat.le_of_ble_eq_true rfl, Nat.le_of_ble_eq_true rfl⟩ rfl rfl (Nat.zero_le _) (Nat.zero_le _) 0 rfl [0] rfl (by decide +kernel) rfl (g_lay_sel _ _ _ _ [(0, true), (1, false), (2, false), (3, false)] (by decide +kernel) rfl (by decide +kernel) rfl rfl) rfl ?_
  refine g_if_eqb (pc' := 8) (tgt := 51) C d_Wa_step_5 rfl rfl (fun h => ?_) (fun h => ?_)
  · replace hf := g_bf h hf
    replace hf := g_o2 hf; obtain ⟨h1, hf⟩ := hf; subst h1
    replace hf := g_o2 hf; obtain ⟨h1, hf⟩ := hf; subst h1
    replace hf := g_o2 hf; obtain ⟨h1, hf⟩ := hf; subst h1
    replace hf := Option.some.inj hf; subst hf
    exact g_vret C d_Wa_step_51 () rfl
  · replace hf := g_bt h hf
    refine g_aload_n (pc' := 9) C 0 d_Wa_step_8 rfl rfl ?_
    refine g_dup (pc' := 10) C d_Wa_step_9 rfl rfl ?_
    refine g_get (pc' := 13) C kf_Wa 1 mw_1_67 d_Wa_step_10 rfl 0 rfl (by decide) rfl ?_
    refine g_iconst (pc' := 14) (v := 1) C d_Wa_step_13 rfl rfl ?_
    refine g_iload_n (pc' := 15) C 1 d_Wa_step_14 rfl rfl ?_
    refine g_ishl (pc' := 16) C d_Wa_step_15 rfl ?_
    refine g_ixor (pc' := 17) C d_Wa_step_16 rfl ?_
    refine g_put (pc' := 20) (ws' := [O_Wa a_o x_o_lamps (x_o_picture ^^^ ((1 : Int32) <<< (p1 &&& 31))) x_o_night x_o_spent a_o_had a_o_told a_o_last a_o_often, A_I dA a_o_last 10 x_o_last, O_Pi a_o_had a_o_had_words, A_J dA a_o_had_words 16 x_o_had_words]) C kf_Wa 1 mw_1_67 d_Wa_step_17 rfl 0 rfl (by decide) rfl rfl rfl (Nat.le_of_ble_eq_true rfl) rfl ?_
    refine g_aload_n (pc' := 21) C 0 d_Wa_step_20 rfl rfl ?_
    refine g_dup (pc' := 22) C d_Wa_step_21 rfl rfl ?_
    refine g_get (pc' := 25) C kf_Wa 2 mw_1_71 d_Wa_step_22 rfl 0 rfl (by decide) rfl ?_
    refine g_iconst (pc' := 26) (v := 1) C d_Wa_step_25 rfl rfl ?_
    refine g_iadd (pc' := 27) C d_Wa_step_26 rfl ?_
    refine g_put (pc' := 30) (ws' := [O_Wa a_o x_o_lamps (x_o_picture ^^^ ((1 : Int32) <<< (p1 &&& 31))) (x_o_night + (1 : Int32)) x_o_spent a_o_had a_o_told a_o_last a_o_often, A_I dA a_o_last 10 x_o_last, O_Pi a_o_had a_o_had_words, A_J dA a_o_had_words 16 x_o_had_words]) C kf_Wa 2 mw_1_71 d_Wa_step_27 rfl 0 rfl (by decide) rfl rfl rfl (Nat.le_of_ble_eq_true rfl) rfl ?_
    refine g_aload_n (pc' := 31) C 0 d_Wa_step_30 rfl rfl ?_
    refine g_get (pc' := 34) C kf_Wa 6 mw_1_83 d_Wa_step_31 rfl 0 rfl (by decide) rfl ?_
    refine g_iload_n (pc' := 35) C 1 d_Wa_step_34 rfl rfl ?_
    refine g_aload_n (pc' := 36) C 0 d_Wa_step_35 rfl rfl ?_
    refine g_get (pc' := 39) C kf_Wa 2 mw_1_71 d_Wa_step_36 rfl 0 rfl (by decide) rfl ?_
    have hb := g_ck hf
    replace hf := g_in hb hf
    refine g_iast (pc' := 40) (ws' := [O_Wa a_o x_o_lamps (x_o_picture ^^^ ((1 : Int32) <<< (p1 &&& 31))) (x_o_night + (1 : Int32)) x_o_spent a_o_had a_o_told a_o_last a_o_often, A_I dA a_o_last 10 (upd x_o_last (Int32.toNatClampNeg p1) (x_o_night + (1 : Int32))), O_Pi a_o_had a_o_had_words, A_J dA a_o_had_words 16 x_o_had_words]) C d_Wa_step_39 rfl 1 rfl hb rfl ?_
    refine g_aload_n (pc' := 41) C 0 d_Wa_step_40 rfl rfl ?_
    refine g_get (pc' := 44) C kf_Wa 4 mw_1_76 d_Wa_step_41 rfl 0 rfl (by decide) rfl ?_
    refine g_aload_n (pc' := 45) C 0 d_Wa_step_44 rfl rfl ?_
    refine g_get (pc' := 48) C kf_Wa 1 mw_1_67 d_Wa_step_45 rfl 0 rfl (by decide) rfl ?_
    replace hf := g_bi hf; obtain ⟨u3, hc4, hf⟩ := hf
    refine g_callV (pc' := 51) (st1 := []) (ws1 := [O_Wa a_o x_o_lamps (x_o_picture ^^^ ((1 : Int32) <<< (p1 &&& 31))) (x_o_night + (1 : Int32)) x_o_spent a_o_had a_o_told a_o_last a_o_often, A_I dA a_o_last 10 (upd x_o_last (Int32.toNatClampNeg p1) (x_o_night + (1 : Int32))), O_Pi a_o_had a_o_had_words, A_J dA a_o_had_words 16 u3]) C (c_Pi_add (l := l) (D := D) (dA := dA) (a_o := a_o_had) (a_o_words := a_o_had_words)   hc4) yy_Pi_add kf_Pi rfl mw_1_53 d_Wa_step_48 rfl [] rfl rfl (Nat.le_of_ble_eq_true rfl) ⟨Nat.le_of_ble_eq_true rfl, Nat.le_of_ble_eq_true rfl⟩ rfl rfl (Nat.zero_le _) (Nat.zero_le _) 2 rfl [2, 3] rfl (by decide +kernel) rfl (g_lay_sel _ _ _ _ [(0, false), (1, false), (0, true), (1, true)] (by decide +kernel) rfl (by decide +kernel) rfl rfl) rfl ?_
    replace hf := g_o2 hf; obtain ⟨h1, hf⟩ := hf; subst h1
    replace hf := g_o2 hf; obtain ⟨h1, hf⟩ := hf; subst h1
    replace hf := g_o2 hf; obtain ⟨h1, hf⟩ := hf; subst h1
    replace hf := Option.some.inj hf; subst hf
    exact g_vret C d_Wa_step_51 () rfl
def y_Wa_stepBack : MethodName := ⟨"OneLamp$Wall", "stepBack", "(II)V"⟩
theorem yy_Wa_stepBack : YV y_Wa_stepBack prog_11_method_9_code 3 none 2 := ⟨mw_3_128, mw_1_2, mw_3_126, mw_3_127, by decide +kernel, by decide +kernel, by decide +kernel⟩
theorem d_Wa_stepBack_0 : decode prog_11_method_9_code 0 = .ok (.aload_n 0, 1) := by decide +kernel
theorem d_Wa_stepBack_1 : decode prog_11_method_9_code 1 = .ok (.iload_n 1, 1) := by decide +kernel
theorem d_Wa_stepBack_2 : decode prog_11_method_9_code 2 = .ok (.invokevirtual 67, 3) := by decide +kernel
theorem d_Wa_stepBack_5 : decode prog_11_method_9_code 5 = .ok (.ifCond .eq 43, 3) := by decide +kernel
theorem d_Wa_stepBack_8 : decode prog_11_method_9_code 8 = .ok (.aload_n 0, 1) := by decide +kernel
theorem d_Wa_stepBack_9 : decode prog_11_method_9_code 9 = .ok (.getfield 18, 3) := by decide +kernel
theorem d_Wa_stepBack_12 : decode prog_11_method_9_code 12 = .ok (.aload_n 0, 1) := by decide +kernel
theorem d_Wa_stepBack_13 : decode prog_11_method_9_code 13 = .ok (.getfield 36, 3) := by decide +kernel
theorem d_Wa_stepBack_16 : decode prog_11_method_9_code 16 = .ok (.invokevirtual 71, 3) := by decide +kernel
theorem d_Wa_stepBack_19 : decode prog_11_method_9_code 19 = .ok (.aload_n 0, 1) := by decide +kernel
theorem d_Wa_stepBack_20 : decode prog_11_method_9_code 20 = .ok (.dup, 1) := by decide +kernel
theorem d_Wa_stepBack_21 : decode prog_11_method_9_code 21 = .ok (.getfield 36, 3) := by decide +kernel
theorem d_Wa_stepBack_24 : decode prog_11_method_9_code 24 = .ok (.iconst 1, 1) := by decide +kernel
theorem d_Wa_stepBack_25 : decode prog_11_method_9_code 25 = .ok (.iload_n 1, 1) := by decide +kernel
theorem d_Wa_stepBack_26 : decode prog_11_method_9_code 26 = .ok (.ishl, 1) := by decide +kernel
theorem d_Wa_stepBack_27 : decode prog_11_method_9_code 27 = .ok (.ixor, 1) := by decide +kernel
theorem d_Wa_stepBack_28 : decode prog_11_method_9_code 28 = .ok (.putfield 36, 3) := by decide +kernel
theorem d_Wa_stepBack_31 : decode prog_11_method_9_code 31 = .ok (.aload_n 0, 1) := by decide +kernel
theorem d_Wa_stepBack_32 : decode prog_11_method_9_code 32 = .ok (.dup, 1) := by decide +kernel
theorem d_Wa_stepBack_33 : decode prog_11_method_9_code 33 = .ok (.getfield 39, 3) := by decide +kernel
theorem d_Wa_stepBack_36 : decode prog_11_method_9_code 36 = .ok (.iconst 1, 1) := by decide +kernel
theorem d_Wa_stepBack_37 : decode prog_11_method_9_code 37 = .ok (.isub, 1) := by decide +kernel
theorem d_Wa_stepBack_38 : decode prog_11_method_9_code 38 = .ok (.putfield 39, 3) := by decide +kernel
theorem d_Wa_stepBack_41 : decode prog_11_method_9_code 41 = .ok (.aload_n 0, 1) := by decide +kernel
theorem d_Wa_stepBack_42 : decode prog_11_method_9_code 42 = .ok (.getfield 25, 3) := by decide +kernel
theorem d_Wa_stepBack_45 : decode prog_11_method_9_code 45 = .ok (.iload_n 1, 1) := by decide +kernel
theorem d_Wa_stepBack_46 : decode prog_11_method_9_code 46 = .ok (.iload_n 2, 1) := by decide +kernel
theorem d_Wa_stepBack_47 : decode prog_11_method_9_code 47 = .ok (.iastore, 1) := by decide +kernel
theorem d_Wa_stepBack_48 : decode prog_11_method_9_code 48 = .ok (.return_, 1) := by decide +kernel
def f_Wa_stepBack  (p1 : Int32) (p2 : Int32) (x_o_lamps : Int32) (x_o_picture : Int32) (x_o_night : Int32) (x_o_had_words : Nat → Int64) (x_o_last : Nat → Int32) : Option (Int32 × Int32 × (Nat → Int64) × (Nat → Int32)) :=
  (f_Wa_hasLamp  p1 x_o_lamps).bind fun r1 =>
  if r1 = true then
    ((f_Pi_remove  x_o_picture x_o_had_words).bind fun u3 =>
    if p1 < 0 ∨ 10 ≤ Int32.toNatClampNeg p1 then none else
    some ((x_o_picture ^^^ ((1 : Int32) <<< (p1 &&& 31))), (x_o_night - (1 : Int32)), u3, (upd x_o_last (Int32.toNatClampNeg p1) p2)))
  else
    (some (x_o_picture, x_o_night, x_o_had_words, x_o_last))
set_option maxRecDepth 20000 in
theorem c_Wa_stepBack {l : Launch} {D : va_G} {dA : Nat → ClassId} {a_o a_o_had a_o_told a_o_last a_o_often a_o_had_words : Nat} {x_o_spent : Int32} {p1 : Int32} {p2 : Int32} {x_o_lamps : Int32} {x_o_picture : Int32} {x_o_night : Int32} {x_o_had_words : Nat → Int64} {x_o_last : Nat → Int32} {o_x_o_picture : Int32} {o_x_o_night : Int32} {o_x_o_had_words : Nat → Int64} {o_x_o_last : Nat → Int32}   (hf : f_Wa_stepBack  p1 p2 x_o_lamps x_o_picture x_o_night x_o_had_words x_o_last = some (o_x_o_picture, o_x_o_night, o_x_o_had_words, o_x_o_last)) : CT l y_Wa_stepBack prog_11_method_9_code 3 none { frames := 2, cells := 0, slots := 0, locals := 41 } D dA [.ref a_o, .int p1, .int p2] [O_Wa a_o x_o_lamps x_o_picture x_o_night x_o_spent a_o_had a_o_told a_o_last a_o_often, O_Pi a_o_had a_o_had_words, A_J dA a_o_had_words 16 x_o_had_words, A_I dA a_o_last 10 x_o_last] none (fun _ : Unit => [O_Wa a_o x_o_lamps o_x_o_picture o_x_o_night x_o_spent a_o_had a_o_told a_o_last a_o_often, O_Pi a_o_had a_o_had_words, A_J dA a_o_had_words 16 o_x_o_had_words, A_I dA a_o_last 10 o_x_o_last]) := by
  refine ct_intro "OneLamp$Wall" rfl (by decide +kernel) (Nat.le_of_ble_eq_true rfl) [(0, .ref a_o), (1, .int p1), (2, .int p2)] rfl (fun _ C => ?_)
  unfold f_Wa_stepBack at hf
  refine g_aload_n (pc' := 1) C 0 d_Wa_stepBack_0 rfl rfl ?_
  refine g_iload_n (pc' := 2) C 1 d_Wa_stepBack_1 rfl rfl ?_
  replace hf := g_bi hf; obtain ⟨r1, hc2, hf⟩ := hf
  refine g_callV (pc' := 5) (st1 := [.int (b2i r1)]) (ws1 := [O_Wa a_o x_o_lamps x_o_picture x_o_night x_o_spent a_o_had a_o_told a_o_last a_o_often, O_Pi a_o_had a_o_had_words, A_J dA a_o_had_words 16 x_o_had_words, A_I dA a_o_last 10 x_o_last]) C (c_Wa_hasLamp (l := l) (D := D) (dA := dA) (a_o := a_o) (a_o_had := a_o_had) (a_o_told := a_o_told) (a_o_last := a_o_last) (a_o_often := a_o_often) (x_o_picture := x_o_picture) (x_o_night := x_o_night) (x_o_spent := x_o_spent)   hc2) yy_Wa_hasLamp kf_Wa rfl mw_3_40 d_Wa_stepBack_2 rfl [] rfl rfl (Nat.le_of_ble_eq_true rfl) ⟨Nat.le_of_ble_eq_true rfl, Nat.le_of_ble_eq_true rfl⟩ rfl rfl (Nat.zero_le _) (Nat.zero_le _) 0 rfl [0] rfl (by decide +kernel) rfl (g_lay_sel _ _ _ _ [(0, true), (1, false), (2, false), (3, false)] (by decide +kernel) rfl (by decide +kernel) rfl rfl) rfl ?_
  refine g_if_eqb (pc' := 8) (tgt := 48) C d_Wa_stepBack_5 rfl rfl (fun h => ?_) (fun h => ?_)
  · replace hf := g_bf h hf
    replace hf := g_o2 hf; obtain ⟨h1, hf⟩ := hf; subst h1
    replace hf := g_o2 hf; obtain ⟨h1, hf⟩ := hf; subst h1
    replace hf := g_o2 hf; obtain ⟨h1, hf⟩ := hf; subst h1
    replace hf := Option.some.inj hf; subst hf
    exact g_vret C d_Wa_stepBack_48 () rfl
  · replace hf := g_bt h hf
    refine g_aload_n (pc' := 9) C 0 d_Wa_stepBack_8 rfl rfl ?_
    refine g_get (pc' := 12) C kf_Wa 4 mw_1_76 d_Wa_stepBack_9 rfl 0 rfl (by decide) rfl ?_
    refine g_aload_n (pc' := 13) C 0 d_Wa_stepBack_12 rfl rfl ?_
    refine g_get (pc' := 16) C kf_Wa 1 mw_1_67 d_Wa_stepBack_13 rfl 0 rfl (by decide) rfl ?_
    replace hf := g_bi hf; obtain ⟨u3, hc4, hf⟩ := hf
    refine g_callV (pc' := 19) (st1 := []) (ws1 := [O_Wa a_o x_o_lamps x_o_picture x_o_night x_o_spent a_o_had a_o_told a_o_last a_o_often, O_Pi a_o_had a_o_had_words, A_J dA a_o_had_words 16 u3, A_I dA a_o_last 10 x_o_last]) C (c_Pi_remove (l := l) (D := D) (dA := dA) (a_o := a_o_had) (a_o_words := a_o_had_words)   hc4) yy_Pi_remove kf_Pi rfl mw_3_129 d_Wa_stepBack_16 rfl [] rfl rfl (Nat.le_of_ble_eq_true rfl) ⟨Nat.le_of_ble_eq_true rfl, Nat.le_of_ble_eq_true rfl⟩ rfl rfl (Nat.zero_le _) (Nat.zero_le _) 1 rfl [1, 2] rfl (by decide +kernel) rfl (g_lay_sel _ _ _ _ [(0, false), (0, true), (1, true), (3, false)] (by decide +kernel) rfl (by decide +kernel) rfl rfl) rfl ?_
    refine g_aload_n (pc' := 20) C 0 d_Wa_stepBack_19 rfl rfl ?_
    refine g_dup (pc' := 21) C d_Wa_stepBack_20 rfl rfl ?_
    refine g_get (pc' := 24) C kf_Wa 1 mw_1_67 d_Wa_stepBack_21 rfl 0 rfl (by decide) rfl ?_
    refine g_iconst (pc' := 25) (v := 1) C d_Wa_stepBack_24 rfl rfl ?_
    refine g_iload_n (pc' := 26) C 1 d_Wa_stepBack_25 rfl rfl ?_
    refine g_ishl (pc' := 27) C d_Wa_stepBack_26 rfl ?_
    refine g_ixor (pc' := 28) C d_Wa_stepBack_27 rfl ?_
    refine g_put (pc' := 31) (ws' := [O_Wa a_o x_o_lamps (x_o_picture ^^^ ((1 : Int32) <<< (p1 &&& 31))) x_o_night x_o_spent a_o_had a_o_told a_o_last a_o_often, O_Pi a_o_had a_o_had_words, A_J dA a_o_had_words 16 u3, A_I dA a_o_last 10 x_o_last]) C kf_Wa 1 mw_1_67 d_Wa_stepBack_28 rfl 0 rfl (by decide) rfl rfl rfl (Nat.le_of_ble_eq_true rfl) rfl ?_
    refine g_aload_n (pc' := 32) C 0 d_Wa_stepBack_31 rfl rfl ?_
    refine g_dup (pc' := 33) C d_Wa_stepBack_32 rfl rfl ?_
    refine g_get (pc' := 36) C kf_Wa 2 mw_1_71 d_Wa_stepBack_33 rfl 0 rfl (by decide) rfl ?_
    refine g_iconst (pc' := 37) (v := 1) C d_Wa_stepBack_36 rfl rfl ?_
    refine g_isub (pc' := 38) C d_Wa_stepBack_37 rfl ?_
    refine g_put (pc' := 41) (ws' := [O_Wa a_o x_o_lamps (x_o_picture ^^^ ((1 : Int32) <<< (p1 &&& 31))) (x_o_night - (1 : Int32)) x_o_spent a_o_had a_o_told a_o_last a_o_often, O_Pi a_o_had a_o_had_words, A_J dA a_o_had_words 16 u3, A_I dA a_o_last 10 x_o_last]) C kf_Wa 2 mw_1_71 d_Wa_stepBack_38 rfl 0 rfl (by decide) rfl rfl rfl (Nat.le_of_ble_eq_true rfl) rfl ?_
    refine g_aload_n (pc' := 42) C 0 d_Wa_stepBack_41 rfl rfl ?_
    refine g_get (pc' := 45) C kf_Wa 6 mw_1_83 d_Wa_stepBack_42 rfl 0 rfl (by decide) rfl ?_
    refine g_iload_n (pc' := 46) C 1 d_Wa_stepBack_45 rfl rfl ?_
    refine g_iload_n (pc' := 47) C 2 d_Wa_stepBack_46 rfl rfl ?_
    have hb := g_ck hf
    replace hf := g_in hb hf
    refine g_iast (pc' := 48) (ws' := [O_Wa a_o x_o_lamps (x_o_picture ^^^ ((1 : Int32) <<< (p1 &&& 31))) (x_o_night - (1 : Int32)) x_o_spent a_o_had a_o_told a_o_last a_o_often, O_Pi a_o_had a_o_had_words, A_J dA a_o_had_words 16 u3, A_I dA a_o_last 10 (upd x_o_last (Int32.toNatClampNeg p1) p2)]) C d_Wa_stepBack_47 rfl 3 rfl hb rfl ?_
    replace hf := g_o2 hf; obtain ⟨h1, hf⟩ := hf; subst h1
    replace hf := g_o2 hf; obtain ⟨h1, hf⟩ := hf; subst h1
    replace hf := g_o2 hf; obtain ⟨h1, hf⟩ := hf; subst h1
    replace hf := Option.some.inj hf; subst hf
    exact g_vret C d_Wa_stepBack_48 () rfl
def y_Wa_pay : MethodName := ⟨"OneLamp$Wall", "pay", "(II)V"⟩
theorem yy_Wa_pay : YV y_Wa_pay prog_11_method_10_code 3 none 2 := ⟨mw_3_74, mw_1_2, mw_3_72, mw_3_73, by decide +kernel, by decide +kernel, by decide +kernel⟩
theorem d_Wa_pay_0 : decode prog_11_method_10_code 0 = .ok (.aload_n 0, 1) := by decide +kernel
theorem d_Wa_pay_1 : decode prog_11_method_10_code 1 = .ok (.iload_n 1, 1) := by decide +kernel
theorem d_Wa_pay_2 : decode prog_11_method_10_code 2 = .ok (.invokevirtual 67, 3) := by decide +kernel
theorem d_Wa_pay_5 : decode prog_11_method_10_code 5 = .ok (.ifCond .eq 23, 3) := by decide +kernel
theorem d_Wa_pay_8 : decode prog_11_method_10_code 8 = .ok (.aload_n 0, 1) := by decide +kernel
theorem d_Wa_pay_9 : decode prog_11_method_10_code 9 = .ok (.getfield 29, 3) := by decide +kernel
theorem d_Wa_pay_12 : decode prog_11_method_10_code 12 = .ok (.iload_n 1, 1) := by decide +kernel
theorem d_Wa_pay_13 : decode prog_11_method_10_code 13 = .ok (.dup2, 1) := by decide +kernel
theorem d_Wa_pay_14 : decode prog_11_method_10_code 14 = .ok (.iaload, 1) := by decide +kernel
theorem d_Wa_pay_15 : decode prog_11_method_10_code 15 = .ok (.iconst 1, 1) := by decide +kernel
theorem d_Wa_pay_16 : decode prog_11_method_10_code 16 = .ok (.iadd, 1) := by decide +kernel
theorem d_Wa_pay_17 : decode prog_11_method_10_code 17 = .ok (.iastore, 1) := by decide +kernel
theorem d_Wa_pay_18 : decode prog_11_method_10_code 18 = .ok (.aload_n 0, 1) := by decide +kernel
theorem d_Wa_pay_19 : decode prog_11_method_10_code 19 = .ok (.dup, 1) := by decide +kernel
theorem d_Wa_pay_20 : decode prog_11_method_10_code 20 = .ok (.getfield 42, 3) := by decide +kernel
theorem d_Wa_pay_23 : decode prog_11_method_10_code 23 = .ok (.iload_n 2, 1) := by decide +kernel
theorem d_Wa_pay_24 : decode prog_11_method_10_code 24 = .ok (.iadd, 1) := by decide +kernel
theorem d_Wa_pay_25 : decode prog_11_method_10_code 25 = .ok (.putfield 42, 3) := by decide +kernel
theorem d_Wa_pay_28 : decode prog_11_method_10_code 28 = .ok (.return_, 1) := by decide +kernel
def f_Wa_pay  (p1 : Int32) (p2 : Int32) (x_o_lamps : Int32) (x_o_spent : Int32) (x_o_often : Nat → Int32) : Option (Int32 × (Nat → Int32)) :=
  (f_Wa_hasLamp  p1 x_o_lamps).bind fun r1 =>
  if r1 = true then
    (if p1 < 0 ∨ 10 ≤ Int32.toNatClampNeg p1 then none else
    if p1 < 0 ∨ 10 ≤ Int32.toNatClampNeg p1 then none else
    some ((x_o_spent + p2), (upd x_o_often (Int32.toNatClampNeg p1) ((x_o_often (Int32.toNatClampNeg p1)) + (1 : Int32)))))
  else
    (some (x_o_spent, x_o_often))
set_option maxRecDepth 20000 in
theorem c_Wa_pay {l : Launch} {D : va_G} {dA : Nat → ClassId} {a_o a_o_had a_o_told a_o_last a_o_often : Nat} {x_o_picture : Int32} {x_o_night : Int32} {p1 : Int32} {p2 : Int32} {x_o_lamps : Int32} {x_o_spent : Int32} {x_o_often : Nat → Int32} {o_x_o_spent : Int32} {o_x_o_often : Nat → Int32}   (hf : f_Wa_pay  p1 p2 x_o_lamps x_o_spent x_o_often = some (o_x_o_spent, o_x_o_often)) : CT l y_Wa_pay prog_11_method_10_code 3 none { frames := 1, cells := 0, slots := 0, locals := 21 } D dA [.ref a_o, .int p1, .int p2] [O_Wa a_o x_o_lamps x_o_picture x_o_night x_o_spent a_o_had a_o_told a_o_last a_o_often, A_I dA a_o_often 10 x_o_often] none (fun _ : Unit => [O_Wa a_o x_o_lamps x_o_picture x_o_night o_x_o_spent a_o_had a_o_told a_o_last a_o_often, A_I dA a_o_often 10 o_x_o_often]) := by
  refine ct_intro "OneLamp$Wall" rfl (by decide +kernel) (Nat.le_of_ble_eq_true rfl) [(0, .ref a_o), (1, .int p1), (2, .int p2)] rfl (fun _ C => ?_)
  unfold f_Wa_pay at hf
  refine g_aload_n (pc' := 1) C 0 d_Wa_pay_0 rfl rfl ?_
  refine g_iload_n (pc' := 2) C 1 d_Wa_pay_1 rfl rfl ?_
  replace hf := g_bi hf; obtain ⟨r1, hc2, hf⟩ := hf
  refine g_callV (pc' := 5) (st1 := [.int (b2i r1)]) (ws1 := [O_Wa a_o x_o_lamps x_o_picture x_o_night x_o_spent a_o_had a_o_told a_o_last a_o_often, A_I dA a_o_often 10 x_o_often]) C (c_Wa_hasLamp (l := l) (D := D) (dA := dA) (a_o := a_o) (a_o_had := a_o_had) (a_o_told := a_o_told) (a_o_last := a_o_last) (a_o_often := a_o_often) (x_o_picture := x_o_picture) (x_o_night := x_o_night) (x_o_spent := x_o_spent)   hc2) yy_Wa_hasLamp kf_Wa rfl mw_3_40 d_Wa_pay_2 rfl [] rfl rfl (Nat.le_of_ble_eq_true rfl) ⟨Nat.le_of_ble_eq_true rfl, Nat.le_of_ble_eq_true rfl⟩ rfl rfl (Nat.zero_le _) (Nat.zero_le _) 0 rfl [0] rfl (by decide +kernel) rfl (g_lay_sel _ _ _ _ [(0, true), (1, false)] (by decide +kernel) rfl (by decide +kernel) rfl rfl) rfl ?_
  refine g_if_eqb (pc' := 8) (tgt := 28) C d_Wa_pay_5 rfl rfl (fun h => ?_) (fun h => ?_)
  · replace hf := g_bf h hf
    replace hf := g_o2 hf; obtain ⟨h1, hf⟩ := hf; subst h1
    replace hf := Option.some.inj hf; subst hf
    exact g_vret C d_Wa_pay_28 () rfl
  · replace hf := g_bt h hf
    refine g_aload_n (pc' := 9) C 0 d_Wa_pay_8 rfl rfl ?_
    refine g_get (pc' := 12) C kf_Wa 7 mw_1_84 d_Wa_pay_9 rfl 0 rfl (by decide) rfl ?_
    refine g_iload_n (pc' := 13) C 1 d_Wa_pay_12 rfl rfl ?_
    refine g_dup2 (pc' := 14) C d_Wa_pay_13 rfl rfl rfl ?_
    have hb := g_ck hf
    replace hf := g_in hb hf
    refine g_iald (pc' := 15) C d_Wa_pay_14 rfl 1 rfl hb ?_
    refine g_iconst (pc' := 16) (v := 1) C d_Wa_pay_15 rfl rfl ?_
    refine g_iadd (pc' := 17) C d_Wa_pay_16 rfl ?_
    have hb := g_ck hf
    replace hf := g_in hb hf
    refine g_iast (pc' := 18) (ws' := [O_Wa a_o x_o_lamps x_o_picture x_o_night x_o_spent a_o_had a_o_told a_o_last a_o_often, A_I dA a_o_often 10 (upd x_o_often (Int32.toNatClampNeg p1) ((x_o_often (Int32.toNatClampNeg p1)) + (1 : Int32)))]) C d_Wa_pay_17 rfl 1 rfl hb rfl ?_
    refine g_aload_n (pc' := 19) C 0 d_Wa_pay_18 rfl rfl ?_
    refine g_dup (pc' := 20) C d_Wa_pay_19 rfl rfl ?_
    refine g_get (pc' := 23) C kf_Wa 3 mw_1_74 d_Wa_pay_20 rfl 0 rfl (by decide) rfl ?_
    refine g_iload_n (pc' := 24) C 2 d_Wa_pay_23 rfl rfl ?_
    refine g_iadd (pc' := 25) C d_Wa_pay_24 rfl ?_
    refine g_put (pc' := 28) (ws' := [O_Wa a_o x_o_lamps x_o_picture x_o_night (x_o_spent + p2) a_o_had a_o_told a_o_last a_o_often, A_I dA a_o_often 10 (upd x_o_often (Int32.toNatClampNeg p1) ((x_o_often (Int32.toNatClampNeg p1)) + (1 : Int32)))]) C kf_Wa 3 mw_1_74 d_Wa_pay_25 rfl 0 rfl (by decide) rfl rfl rfl (Nat.le_of_ble_eq_true rfl) rfl ?_
    replace hf := g_o2 hf; obtain ⟨h1, hf⟩ := hf; subst h1
    replace hf := Option.some.inj hf; subst hf
    exact g_vret C d_Wa_pay_28 () rfl
