def y_OL_lamps : MethodName := ⟨"OneLamp", "lamps", "(I)I"⟩
theorem yy_OL_lamps : YV y_OL_lamps prog_1_method_2_code 3 (some .int) 1 := ⟨mw_2_75, mw_1_1, mw_2_73, mw_2_74, by decide +kernel, by decide +kernel, by decide +kernel⟩
theorem d_OL_lamps_0 : decode prog_1_method_2_code 0 = .ok (.iload_n 1, 1) := by decide +kernel
theorem d_OL_lamps_1 : decode prog_1_method_2_code 1 = .ok (.iconst 1, 1) := by decide +kernel
theorem d_OL_lamps_2 : decode prog_1_method_2_code 2 = .ok (.if_icmp .lt 9, 3) := by decide +kernel
theorem d_OL_lamps_5 : decode prog_1_method_2_code 5 = .ok (.iload_n 1, 1) := by decide +kernel
theorem d_OL_lamps_6 : decode prog_1_method_2_code 6 = .ok (.bipush 10, 2) := by decide +kernel
theorem d_OL_lamps_8 : decode prog_1_method_2_code 8 = .ok (.if_icmp .le 5, 3) := by decide +kernel
theorem d_OL_lamps_11 : decode prog_1_method_2_code 11 = .ok (.iconst (-1), 1) := by decide +kernel
theorem d_OL_lamps_12 : decode prog_1_method_2_code 12 = .ok (.ireturn, 1) := by decide +kernel
theorem d_OL_lamps_13 : decode prog_1_method_2_code 13 = .ok (.aload_n 0, 1) := by decide +kernel
theorem d_OL_lamps_14 : decode prog_1_method_2_code 14 = .ok (.getfield 10, 3) := by decide +kernel
theorem d_OL_lamps_17 : decode prog_1_method_2_code 17 = .ok (.getfield 61, 3) := by decide +kernel
theorem d_OL_lamps_20 : decode prog_1_method_2_code 20 = .ok (.istore_n 2, 1) := by decide +kernel
theorem d_OL_lamps_21 : decode prog_1_method_2_code 21 = .ok (.aload_n 0, 1) := by decide +kernel
theorem d_OL_lamps_22 : decode prog_1_method_2_code 22 = .ok (.getfield 10, 3) := by decide +kernel
theorem d_OL_lamps_25 : decode prog_1_method_2_code 25 = .ok (.iload_n 1, 1) := by decide +kernel
theorem d_OL_lamps_26 : decode prog_1_method_2_code 26 = .ok (.putfield 61, 3) := by decide +kernel
theorem d_OL_lamps_29 : decode prog_1_method_2_code 29 = .ok (.aload_n 0, 1) := by decide +kernel
theorem d_OL_lamps_30 : decode prog_1_method_2_code 30 = .ok (.getfield 10, 3) := by decide +kernel
theorem d_OL_lamps_33 : decode prog_1_method_2_code 33 = .ok (.getfield 65, 3) := by decide +kernel
theorem d_OL_lamps_36 : decode prog_1_method_2_code 36 = .ok (.invokevirtual 69, 3) := by decide +kernel
theorem d_OL_lamps_39 : decode prog_1_method_2_code 39 = .ok (.aload_n 0, 1) := by decide +kernel
theorem d_OL_lamps_40 : decode prog_1_method_2_code 40 = .ok (.getfield 10, 3) := by decide +kernel
theorem d_OL_lamps_43 : decode prog_1_method_2_code 43 = .ok (.iconst 0, 1) := by decide +kernel
theorem d_OL_lamps_44 : decode prog_1_method_2_code 44 = .ok (.invokevirtual 74, 3) := by decide +kernel
theorem d_OL_lamps_47 : decode prog_1_method_2_code 47 = .ok (.iload_n 2, 1) := by decide +kernel
theorem d_OL_lamps_48 : decode prog_1_method_2_code 48 = .ok (.ireturn, 1) := by decide +kernel
def f_OL_lamps  (p1 : Int32) (x_o_wall_lamps : Int32) (x_o_wall_picture : Int32) (x_o_wall_night : Int32) (x_o_wall_spent : Int32) (x_o_wall_told_words : Nat → Int64) (x_o_wall_had_words : Nat → Int64) (x_o_wall_last : Nat → Int32) (x_o_wall_often : Nat → Int32) : Option (Int32 × Int32 × Int32 × Int32 × Int32 × (Nat → Int64) × (Nat → Int64) × (Nat → Int32) × (Nat → Int32)) :=
  if p1 < (1 : Int32) then
    (some ((-1 : Int32), x_o_wall_lamps, x_o_wall_picture, x_o_wall_night, x_o_wall_spent, x_o_wall_told_words, x_o_wall_had_words, x_o_wall_last, x_o_wall_often))
  else
    (if p1 ≤ (10 : Int32) then
      ((f_Pi_empty  x_o_wall_told_words).bind fun u1 =>
      (f_Wa_startAt  (0 : Int32) x_o_wall_picture x_o_wall_night x_o_wall_spent x_o_wall_had_words x_o_wall_last x_o_wall_often).bind fun (u3, u4, u5, u6, u7, u8) =>
      some (x_o_wall_lamps, p1, u3, u4, u5, u1, u6, u7, u8))
    else
      (some ((-1 : Int32), x_o_wall_lamps, x_o_wall_picture, x_o_wall_night, x_o_wall_spent, x_o_wall_told_words, x_o_wall_had_words, x_o_wall_last, x_o_wall_often)))
set_option maxRecDepth 20000 in
theorem c_OL_lamps {l : Launch} {D : va_G} {dA : Nat → ClassId} {a_o a_o_wall a_o_imageOfWall a_o_rules a_o_tape a_o_costs a_o_thought a_o_acts a_o_shelves a_o_wall_had a_o_wall_told a_o_wall_last a_o_wall_often a_o_wall_told_words a_o_wall_had_words : Nat} {x_o_imageIsKept : Bool} {p1 : Int32} {x_o_wall_lamps : Int32} {x_o_wall_picture : Int32} {x_o_wall_night : Int32} {x_o_wall_spent : Int32} {x_o_wall_told_words : Nat → Int64} {x_o_wall_had_words : Nat → Int64} {x_o_wall_last : Nat → Int32} {x_o_wall_often : Nat → Int32} {r0 : Int32} {o_x_o_wall_lamps : Int32} {o_x_o_wall_picture : Int32} {o_x_o_wall_night : Int32} {o_x_o_wall_spent : Int32} {o_x_o_wall_told_words : Nat → Int64} {o_x_o_wall_had_words : Nat → Int64} {o_x_o_wall_last : Nat → Int32} {o_x_o_wall_often : Nat → Int32}   (hf : f_OL_lamps  p1 x_o_wall_lamps x_o_wall_picture x_o_wall_night x_o_wall_spent x_o_wall_told_words x_o_wall_had_words x_o_wall_last x_o_wall_often = some (r0, o_x_o_wall_lamps, o_x_o_wall_picture, o_x_o_wall_night, o_x_o_wall_spent, o_x_o_wall_told_words, o_x_o_wall_had_words, o_x_o_wall_last, o_x_o_wall_often)) : CT l y_OL_lamps prog_1_method_2_code 3 (some .int) { frames := 3, cells := 0, slots := 0, locals := 65 } D dA [.ref a_o, .int p1] [O_OL a_o a_o_wall a_o_imageOfWall x_o_imageIsKept a_o_rules a_o_tape a_o_costs a_o_thought a_o_acts a_o_shelves, O_Wa a_o_wall x_o_wall_lamps x_o_wall_picture x_o_wall_night x_o_wall_spent a_o_wall_had a_o_wall_told a_o_wall_last a_o_wall_often, O_Pi a_o_wall_told a_o_wall_told_words, A_J dA a_o_wall_told_words 16 x_o_wall_told_words, O_Pi a_o_wall_had a_o_wall_had_words, A_J dA a_o_wall_had_words 16 x_o_wall_had_words, A_I dA a_o_wall_last 10 x_o_wall_last, A_I dA a_o_wall_often 10 x_o_wall_often] (some (.int r0)) (fun _ : Unit => [O_OL a_o a_o_wall a_o_imageOfWall x_o_imageIsKept a_o_rules a_o_tape a_o_costs a_o_thought a_o_acts a_o_shelves, O_Wa a_o_wall o_x_o_wall_lamps o_x_o_wall_picture o_x_o_wall_night o_x_o_wall_spent a_o_wall_had a_o_wall_told a_o_wall_last a_o_wall_often, O_Pi a_o_wall_told a_o_wall_told_words, A_J dA a_o_wall_told_words 16 o_x_o_wall_told_words, O_Pi a_o_wall_had a_o_wall_had_words, A_J dA a_o_wall_had_words 16 o_x_o_wall_had_words, A_I dA a_o_wall_last 10 o_x_o_wall_last, A_I dA a_o_wall_often 10 o_x_o_wall_often]) := by
  refine ct_intro "OneLamp" rfl (by decide +kernel) (Nat.le_of_ble_eq_true rfl) [(0, .ref a_o), (1, .int p1)] rfl (fun _ C => ?_)
  unfold f_OL_lamps at hf
  refine g_iload_n (pc' := 1) C 1 d_OL_lamps_0 rfl rfl ?_
  refine g_iconst (pc' := 2) (v := 1) C d_OL_lamps_1 rfl rfl ?_
  refine g_icmp_lt (pc' := 5) (tgt := 11) C d_OL_lamps_2 rfl rfl (fun h => ?_) (fun h => ?_)
  · replace hf := g_ip h hf
    refine g_iconst (pc' := 12) (v := (-1)) C d_OL_lamps_11 rfl rfl ?_
    replace hf := g_o2 hf; obtain ⟨h1, hf⟩ := hf; subst h1
    replace hf := g_o2 hf; obtain ⟨h1, hf⟩ := hf; subst h1
    replace hf := g_o2 hf; obtain ⟨h1, hf⟩ := hf; subst h1
    replace hf := g_o2 hf; obtain ⟨h1, hf⟩ := hf; subst h1
    replace hf := g_o2 hf; obtain ⟨h1, hf⟩ := hf; subst h1
    replace hf := g_o2 hf; obtain ⟨h1, hf⟩ := hf; subst h1
    replace hf := g_o2 hf; obtain ⟨h1, hf⟩ := hf; subst h1
    replace hf := g_o2 hf; obtain ⟨h1, hf⟩ := hf; subst h1
    replace hf := Option.some.inj hf; subst hf
    exact g_iret C d_OL_lamps_12 () rfl
  · replace hf := g_in h hf
    refine g_iload_n (pc' := 6) C 1 d_OL_lamps_5 rfl rfl ?_
    refine g_bipush (pc' := 8) (v := 10) C d_OL_lamps_6 rfl rfl ?_
    refine g_icmp_le (pc' := 11) (tgt := 13) C d_OL_lamps_8 rfl rfl (fun h => ?_) (fun h => ?_)
    · replace hf := g_ip h hf
      refine g_aload_n (pc' := 14) C 0 d_OL_lamps_13 rfl rfl ?_
      refine g_get (pc' := 17) C kf_OL 0 mw_2_44 d_OL_lamps_14 rfl 0 rfl (by decide) rfl ?_
      refine g_get (pc' := 20) C kf_Wa 0 mw_1_64 d_OL_lamps_17 rfl 1 rfl (by decide) rfl ?_
      refine g_istore_n (pc' := 21) (lv' := [(2, .int x_o_wall_lamps), (0, .ref a_o), (1, .int p1)]) C d_OL_lamps_20 rfl (by decide) rfl ?_
      refine g_aload_n (pc' := 22) C 1 d_OL_lamps_21 rfl rfl ?_
      refine g_get (pc' := 25) C kf_OL 0 mw_2_44 d_OL_lamps_22 rfl 0 rfl (by decide) rfl ?_
      refine g_iload_n (pc' := 26) C 2 d_OL_lamps_25 rfl rfl ?_
      refine g_put (pc' := 29) (ws' := [O_OL a_o a_o_wall a_o_imageOfWall x_o_imageIsKept a_o_rules a_o_tape a_o_costs a_o_thought a_o_acts a_o_shelves, O_Wa a_o_wall p1 x_o_wall_picture x_o_wall_night x_o_wall_spent a_o_wall_had a_o_wall_told a_o_wall_last a_o_wall_often, O_Pi a_o_wall_told a_o_wall_told_words, A_J dA a_o_wall_told_words 16 x_o_wall_told_words, O_Pi a_o_wall_had a_o_wall_had_words, A_J dA a_o_wall_had_words 16 x_o_wall_had_words, A_I dA a_o_wall_last 10 x_o_wall_last, A_I dA a_o_wall_often 10 x_o_wall_often]) C kf_Wa 0 mw_1_64 d_OL_lamps_26 rfl 1 rfl (by decide) rfl rfl rfl (Nat.le_of_ble_eq_true rfl) rfl ?_
      refine g_aload_n (pc' := 30) C 1 d_OL_lamps_29 rfl rfl ?_
      refine g_get (pc' := 33) C kf_OL 0 mw_2_44 d_OL_lamps_30 rfl 0 rfl (by decide) rfl ?_
      refine g_get (pc' := 36) C kf_Wa 5 mw_1_81 d_OL_lamps_33 rfl 1 rfl (by decide) rfl ?_
      replace hf := g_bi hf; obtain ⟨u1, hc2, hf⟩ := hf
      refine g_callV (pc' := 39) (st1 := []) (ws1 := [O_OL a_o a_o_wall a_o_imageOfWall x_o_imageIsKept a_o_rules a_o_tape a_o_costs a_o_thought a_o_acts a_o_shelves, O_Wa a_o_wall p1 x_o_wall_picture x_o_wall_night x_o_wall_spent a_o_wall_had a_o_wall_told a_o_wall_last a_o_wall_often, O_Pi a_o_wall_told a_o_wall_told_words, A_J dA a_o_wall_told_words 16 u1, O_Pi a_o_wall_had a_o_wall_had_words, A_J dA a_o_wall_had_words 16 x_o_wall_had_words, A_I dA a_o_wall_last 10 x_o_wall_last, A_I dA a_o_wall_often 10 x_o_wall_often]) C (c_Pi_empty (l := l) (D := D) (dA := dA) (a_o := a_o_wall_told) (a_o_words := a_o_wall_told_words)   hc2) yy_Pi_empty kf_Pi rfl mw_2_76 d_OL_lamps_36 rfl [] rfl rfl (Nat.le_of_ble_eq_true rfl) ⟨Nat.le_of_ble_eq_true rfl, Nat.le_of_ble_eq_true rfl⟩ rfl rfl (Nat.zero_le _) (Nat.zero_le _) 2 rfl [2, 3] rfl (by decide +kernel) rfl (g_lay_sel _ _ _ _ [(0, false), (1, false), (0, true), (1, true), (4, false), (5, false), (6, false), (7, false)] (by decide +kernel) rfl (by decide +kernel) rfl rfl) rfl ?_
      refine g_aload_n (pc' := 40) C 1 d_OL_lamps_39 rfl rfl ?_
      refine g_get (pc' := 43) C kf_OL 0 mw_2_44 d_OL_lamps_40 rfl 0 rfl (by decide) rfl ?_
      refine g_iconst (pc' := 44) (v := 0) C d_OL_lamps_43 rfl rfl ?_
      replace hf := g_bi hf; obtain ⟨⟨u3, u4, u5, u6, u7, u8⟩, hc9, hf⟩ := hf
      dsimp only at hf
      refine g_callV (pc' := 47) (st1 := []) (ws1 := [O_OL a_o a_o_wall a_o_imageOfWall x_o_imageIsKept a_o_rules a_o_tape a_o_costs a_o_thought a_o_acts a_o_shelves, O_Wa a_o_wall p1 u3 u4 u5 a_o_wall_had a_o_wall_told a_o_wall_last a_o_wall_often, O_Pi a_o_wall_told a_o_wall_told_words, A_J dA a_o_wall_told_words 16 u1, O_Pi a_o_wall_had a_o_wall_had_words, A_J dA a_o_wall_had_words 16 u6, A_I dA a_o_wall_last 10 u7, A_I dA a_o_wall_often 10 u8]) C (c_Wa_startAt (l := l) (D := D) (dA := dA) (a_o := a_o_wall) (a_o_had := a_o_wall_had) (a_o_told := a_o_wall_told) (a_o_last := a_o_wall_last) (a_o_often := a_o_wall_often) (a_o_had_words := a_o_wall_had_words) (x_o_lamps := p1)   hc9) yy_Wa_startAt kf_Wa rfl mw_2_77 d_OL_lamps_44 rfl [] rfl rfl (Nat.le_of_ble_eq_true rfl) ⟨Nat.le_of_ble_eq_true rfl, Nat.le_of_ble_eq_true rfl⟩ rfl rfl (Nat.zero_le _) (Nat.zero_le _) 1 rfl [1, 4, 5, 6, 7] rfl (by decide +kernel) rfl (g_lay_sel _ _ _ _ [(0, false), (0, true), (2, false), (3, false), (1, true), (2, true), (3, true), (4, true)] (by decide +kernel) rfl (by decide +kernel) rfl rfl) rfl ?_
      refine g_iload_n (pc' := 48) C 0 d_OL_lamps_47 rfl rfl ?_
      replace hf := g_o2 hf; obtain ⟨h1, hf⟩ := hf; subst h1
      replace hf := g_o2 hf; obtain ⟨h1, hf⟩ := hf; subst h1
      replace hf := g_o2 hf; obtain ⟨h1, hf⟩ := hf; subst h1
      replace hf := g_o2 hf; obtain ⟨h1, hf⟩ := hf; subst h1
      replace hf := g_o2 hf; obtain ⟨h1, hf⟩ := hf; subst h1
      replace hf := g_o2 hf; obtain ⟨h1, hf⟩ := hf; subst h1
      replace hf := g_o2 hf; obtain ⟨h1, hf⟩ := hf; subst h1
      replace hf := g_o2 hf; obtain ⟨h1, hf⟩ := hf; subst h1
      replace hf := Option.some.inj hf; subst hf
      exact g_iret C d_OL_lamps_48 () rfl
    · replace hf := g_in h hf
      refine g_iconst (pc' := 12) (v := (-1)) C d_OL_lamps_11 rfl rfl ?_
      replace hf := g_o2 hf; obtain ⟨h1, hf⟩ := hf; subst h1
      replace hf := g_o2 hf; obtain ⟨h1, hf⟩ := hf; subst h1
      replace hf := g_o2 hf; obtain ⟨h1, hf⟩ := hf; subst h1
      replace hf := g_o2 hf; obtain ⟨h1, hf⟩ := hf; subst h1
      replace hf := g_o2 hf; obtain ⟨h1, hf⟩ := hf; subst h1
      replace hf := g_o2 hf; obtain ⟨h1, hf⟩ := hf; subst h1
      replace hf := g_o2 hf; obtain ⟨h1, hf⟩ := hf; subst h1
      replace hf := g_o2 hf; obtain ⟨h1, hf⟩ := hf; subst h1
      replace hf := Option.some.inj hf; subst hf
      exact g_iret C d_OL_lamps_12 () rfl
def y_OL_begin : MethodName := ⟨"OneLamp", "begin", "(I)I"⟩
theorem yy_OL_begin : YV y_OL_begin prog_1_method_3_code 2 (some .int) 1 := ⟨mw_2_81, mw_1_1, mw_2_79, mw_2_80, by decide +kernel, by decide +kernel, by decide +kernel⟩
theorem d_OL_begin_0 : decode prog_1_method_3_code 0 = .ok (.aload_n 0, 1) := by decide +kernel
theorem d_OL_begin_1 : decode prog_1_method_3_code 1 = .ok (.getfield 10, 3) := by decide +kernel
theorem d_OL_begin_4 : decode prog_1_method_3_code 4 = .ok (.iload_n 1, 1) := by decide +kernel
theorem d_OL_begin_5 : decode prog_1_method_3_code 5 = .ok (.invokevirtual 78, 3) := by decide +kernel
theorem d_OL_begin_8 : decode prog_1_method_3_code 8 = .ok (.ifCond .ne 5, 3) := by decide +kernel
theorem d_OL_begin_11 : decode prog_1_method_3_code 11 = .ok (.iconst (-1), 1) := by decide +kernel
theorem d_OL_begin_12 : decode prog_1_method_3_code 12 = .ok (.ireturn, 1) := by decide +kernel
theorem d_OL_begin_13 : decode prog_1_method_3_code 13 = .ok (.aload_n 0, 1) := by decide +kernel
theorem d_OL_begin_14 : decode prog_1_method_3_code 14 = .ok (.getfield 10, 3) := by decide +kernel
theorem d_OL_begin_17 : decode prog_1_method_3_code 17 = .ok (.iload_n 1, 1) := by decide +kernel
theorem d_OL_begin_18 : decode prog_1_method_3_code 18 = .ok (.invokevirtual 74, 3) := by decide +kernel
theorem d_OL_begin_21 : decode prog_1_method_3_code 21 = .ok (.iload_n 1, 1) := by decide +kernel
theorem d_OL_begin_22 : decode prog_1_method_3_code 22 = .ok (.ireturn, 1) := by decide +kernel
def f_OL_begin  (p1 : Int32) (x_o_wall_lamps : Int32) (x_o_wall_picture : Int32) (x_o_wall_night : Int32) (x_o_wall_spent : Int32) (x_o_wall_had_words : Nat → Int64) (x_o_wall_last : Nat → Int32) (x_o_wall_often : Nat → Int32) : Option (Int32 × Int32 × Int32 × Int32 × (Nat → Int64) × (Nat → Int32) × (Nat → Int32)) :=
  (f_Wa_hasPicture  p1 x_o_wall_lamps).bind fun r1 =>
  if r1 = true then
    ((f_Wa_startAt  p1 x_o_wall_picture x_o_wall_night x_o_wall_spent x_o_wall_had_words x_o_wall_last x_o_wall_often).bind fun (u3, u4, u5, u6, u7, u8) =>
    some (p1, u3, u4, u5, u6, u7, u8))
  else
    (some ((-1 : Int32), x_o_wall_picture, x_o_wall_night, x_o_wall_spent, x_o_wall_had_words, x_o_wall_last, x_o_wall_often))
set_option maxRecDepth 20000 in
theorem c_OL_begin {l : Launch} {D : va_G} {dA : Nat → ClassId} {a_o a_o_wall a_o_imageOfWall a_o_rules a_o_tape a_o_costs a_o_thought a_o_acts a_o_shelves a_o_wall_had a_o_wall_told a_o_wall_last a_o_wall_often a_o_wall_had_words : Nat} {x_o_imageIsKept : Bool} {p1 : Int32} {x_o_wall_lamps : Int32} {x_o_wall_picture : Int32} {x_o_wall_night : Int32} {x_o_wall_spent : Int32} {x_o_wall_had_words : Nat → Int64} {x_o_wall_last : Nat → Int32} {x_o_wall_often : Nat → Int32} {r0 : Int32} {o_x_o_wall_picture : Int32} {o_x_o_wall_night : Int32} {o_x_o_wall_spent : Int32} {o_x_o_wall_had_words : Nat → Int64} {o_x_o_wall_last : Nat → Int32} {o_x_o_wall_often : Nat → Int32}   (hf : f_OL_begin  p1 x_o_wall_lamps x_o_wall_picture x_o_wall_night x_o_wall_spent x_o_wall_had_words x_o_wall_last x_o_wall_often = some (r0, o_x_o_wall_picture, o_x_o_wall_night, o_x_o_wall_spent, o_x_o_wall_had_words, o_x_o_wall_last, o_x_o_wall_often)) : CT l y_OL_begin prog_1_method_3_code 2 (some .int) { frames := 3, cells := 0, slots := 0, locals := 65 } D dA [.ref a_o, .int p1] [O_OL a_o a_o_wall a_o_imageOfWall x_o_imageIsKept a_o_rules a_o_tape a_o_costs a_o_thought a_o_acts a_o_shelves, O_Wa a_o_wall x_o_wall_lamps x_o_wall_picture x_o_wall_night x_o_wall_spent a_o_wall_had a_o_wall_told a_o_wall_last a_o_wall_often, O_Pi a_o_wall_had a_o_wall_had_words, A_J dA a_o_wall_had_words 16 x_o_wall_had_words, A_I dA a_o_wall_last 10 x_o_wall_last, A_I dA a_o_wall_often 10 x_o_wall_often] (some (.int r0)) (fun _ : Unit => [O_OL a_o a_o_wall a_o_imageOfWall x_o_imageIsKept a_o_rules a_o_tape a_o_costs a_o_thought a_o_acts a_o_shelves, O_Wa a_o_wall x_o_wall_lamps o_x_o_wall_picture o_x_o_wall_night o_x_o_wall_spent a_o_wall_had a_o_wall_told a_o_wall_last a_o_wall_often, O_Pi a_o_wall_had a_o_wall_had_words, A_J dA a_o_wall_had_words 16 o_x_o_wall_had_words, A_I dA a_o_wall_last 10 o_x_o_wall_last, A_I dA a_o_wall_often 10 o_x_o_wall_often]) := by
  refine ct_intro "OneLamp" rfl (by decide +kernel) (Nat.le_of_ble_eq_true rfl) [(0, .ref a_o), (1, .int p1)] rfl (fun _ C => ?_)
  unfold f_OL_begin at hf
  refine g_aload_n (pc' := 1) C 0 d_OL_begin_0 rfl rfl ?_
  refine g_get (pc' := 4) C kf_OL 0 mw_2_44 d_OL_begin_1 rfl 0 rfl (by decide) rfl ?_
  refine g_iload_n (pc' := 5) C 1 d_OL_begin_4 rfl rfl ?_
  replace hf := g_bi hf; obtain ⟨r1, hc2, hf⟩ := hf
  refine g_callV (pc' := 8) (st1 := [.int (b2i r1)]) (ws1 := [O_OL a_o a_o_wall a_o_imageOfWall x_o_imageIsKept a_o_rules a_o_tape a_o_costs a_o_thought a_o_acts a_o_shelves, O_Wa a_o_wall x_o_wall_lamps x_o_wall_picture x_o_wall_night x_o_wall_spent a_o_wall_had a_o_wall_told a_o_wall_last a_o_wall_often, O_Pi a_o_wall_had a_o_wall_had_words, A_J dA a_o_wall_had_words 16 x_o_wall_had_words, A_I dA a_o_wall_last 10 x_o_wall_last, A_I dA a_o_wall_often 10 x_o_wall_often]) C (c_Wa_hasPicture (l := l) (D := D) (dA := dA) (a_o := a_o_wall) (a_o_had := a_o_wall_had) (a_o_told := a_o_wall_told) (a_o_last := a_o_wall_last) (a_o_often := a_o_wall_often) (x_o_picture := x_o_wall_picture) (x_o_night := x_o_wall_night) (x_o_spent := x_o_wall_spent)   hc2) yy_Wa_hasPicture kf_Wa rfl mw_2_82 d_OL_begin_5 rfl [] rfl rfl (Nat.le_of_ble_eq_true rfl) ⟨Nat.le_of_ble_eq_true rfl, Nat.le_of_ble_eq_true rfl⟩ rfl rfl (Nat.zero_le _) (Nat.zero_le _) 1 rfl [1] rfl (by decide +kernel) rfl (g_lay_sel _ _ _ _ [(0, false), (0, true), (2, false), (3, false), (4, false), (5, false)] (by decide +kernel) rfl (by decide +kernel) rfl rfl) rfl ?_
  refine g_if_neb (pc' := 11) (tgt := 13) C d_OL_begin_8 rfl rfl (fun h => ?_) (fun h => ?_)
  · replace hf := g_bt h hf
    refine g_aload_n (pc' := 14) C 0 d_OL_begin_13 rfl rfl ?_
    refine g_get (pc' := 17) C kf_OL 0 mw_2_44 d_OL_begin_14 rfl 0 rfl (by decide) rfl ?_
    refine g_iload_n (pc' := 18) C 1 d_OL_begin_17 rfl rfl ?_
    replace hf := g_bi hf; obtain ⟨⟨u3, u4, u5, u6, u7, u8⟩, hc9, hf⟩ := hf
    dsimp only at hf
    refine g_callV (pc' := 21) (st1 := []) (ws1 := [O_OL a_o a_o_wall a_o_imageOfWall x_o_imageIsKept a_o_rules a_o_tape a_o_costs a_o_thought a_o_acts a_o_shelves, O_Wa a_o_wall x_o_wall_lamps u3 u4 u5 a_o_wall_had a_o_wall_told a_o_wall_last a_o_wall_often, O_Pi a_o_wall_had a_o_wall_had_words, A_J dA a_o_wall_had_words 16 u6, A_I dA a_o_wall_last 10 u7, A_I dA a_o_wall_often 10 u8]) C (c_Wa_startAt (l := l) (D := D) (dA := dA) (a_o := a_o_wall) (a_o_had := a_o_wall_had) (a_o_told := a_o_wall_told) (a_o_last := a_o_wall_last) (a_o_often := a_o_wall_often) (a_o_had_words := a_o_wall_had_words) (x_o_lamps := x_o_wall_lamps)   hc9) yy_Wa_startAt kf_Wa rfl mw_2_77 d_OL_begin_18 rfl [] rfl rfl (Nat.le_of_ble_eq_true rfl) ⟨Nat.le_of_ble_eq_true rfl, Nat.le_of_ble_eq_true rfl⟩ rfl rfl (Nat.zero_le _) (Nat.zero_le _) 1 rfl [1, 2, 3, 4, 5] rfl (by decide +kernel) rfl (g_lay_sel _ _ _ _ [(0, false), (0, true), (1, true), (2, true), (3, true), (4, true)] (by decide +kernel) rfl (by decide +kernel) rfl rfl) rfl ?_
    refine g_iload_n (pc' := 22) C 1 d_OL_begin_21 rfl rfl ?_
    replace hf := g_o2 hf; obtain ⟨h1, hf⟩ := hf; subst h1
    replace hf := g_o2 hf; obtain ⟨h1, hf⟩ := hf; subst h1
    replace hf := g_o2 hf; obtain ⟨h1, hf⟩ := hf; subst h1
    replace hf := g_o2 hf; obtain ⟨h1, hf⟩ := hf; subst h1
    replace hf := g_o2 hf; obtain ⟨h1, hf⟩ := hf; subst h1
    replace hf := g_o2 hf; obtain ⟨h1, hf⟩ := hf; subst h1
    replace hf := Option.some.inj hf; subst hf
    exact g_iret C d_OL_begin_22 () rfl
  · replace hf := g_bf h hf
    refine g_iconst (pc' := 12) (v := (-1)) C d_OL_begin_11 rfl rfl ?_
    replace hf := g_o2 hf; obtain ⟨h1, hf⟩ := hf; subst h1
    replace hf := g_o2 hf; obtain ⟨h1, hf⟩ := hf; subst h1
    replace hf := g_o2 hf; obtain ⟨h1, hf⟩ := hf; subst h1
    replace hf := g_o2 hf; obtain ⟨h1, hf⟩ := hf; subst h1
    replace hf := g_o2 hf; obtain ⟨h1, hf⟩ := hf; subst h1
    replace hf := g_o2 hf; obtain ⟨h1, hf⟩ := hf; subst h1
    replace hf := Option.some.inj hf; subst hf
    exact g_iret C d_OL_begin_12 () rfl
def y_OL_bar : MethodName := ⟨"OneLamp", "bar", "(I)I"⟩
theorem yy_OL_bar : YV y_OL_bar prog_1_method_4_code 2 (some .int) 1 := ⟨mw_2_89, mw_1_1, mw_2_87, mw_2_88, by decide +kernel, by decide +kernel, by decide +kernel⟩
theorem d_OL_bar_0 : decode prog_1_method_4_code 0 = .ok (.aload_n 0, 1) := by decide +kernel
theorem d_OL_bar_1 : decode prog_1_method_4_code 1 = .ok (.getfield 10, 3) := by decide +kernel
theorem d_OL_bar_4 : decode prog_1_method_4_code 4 = .ok (.iload_n 1, 1) := by decide +kernel
theorem d_OL_bar_5 : decode prog_1_method_4_code 5 = .ok (.invokevirtual 78, 3) := by decide +kernel
theorem d_OL_bar_8 : decode prog_1_method_4_code 8 = .ok (.ifCond .ne 5, 3) := by decide +kernel
theorem d_OL_bar_11 : decode prog_1_method_4_code 11 = .ok (.iconst (-1), 1) := by decide +kernel
theorem d_OL_bar_12 : decode prog_1_method_4_code 12 = .ok (.ireturn, 1) := by decide +kernel
theorem d_OL_bar_13 : decode prog_1_method_4_code 13 = .ok (.aload_n 0, 1) := by decide +kernel
theorem d_OL_bar_14 : decode prog_1_method_4_code 14 = .ok (.getfield 10, 3) := by decide +kernel
theorem d_OL_bar_17 : decode prog_1_method_4_code 17 = .ok (.getfield 65, 3) := by decide +kernel
theorem d_OL_bar_20 : decode prog_1_method_4_code 20 = .ok (.iload_n 1, 1) := by decide +kernel
theorem d_OL_bar_21 : decode prog_1_method_4_code 21 = .ok (.invokevirtual 82, 3) := by decide +kernel
theorem d_OL_bar_24 : decode prog_1_method_4_code 24 = .ok (.ifCond .eq 5, 3) := by decide +kernel
theorem d_OL_bar_27 : decode prog_1_method_4_code 27 = .ok (.iconst 0, 1) := by decide +kernel
theorem d_OL_bar_28 : decode prog_1_method_4_code 28 = .ok (.ireturn, 1) := by decide +kernel
theorem d_OL_bar_29 : decode prog_1_method_4_code 29 = .ok (.aload_n 0, 1) := by decide +kernel
theorem d_OL_bar_30 : decode prog_1_method_4_code 30 = .ok (.getfield 10, 3) := by decide +kernel
theorem d_OL_bar_33 : decode prog_1_method_4_code 33 = .ok (.getfield 65, 3) := by decide +kernel
theorem d_OL_bar_36 : decode prog_1_method_4_code 36 = .ok (.iload_n 1, 1) := by decide +kernel
theorem d_OL_bar_37 : decode prog_1_method_4_code 37 = .ok (.invokevirtual 85, 3) := by decide +kernel
theorem d_OL_bar_40 : decode prog_1_method_4_code 40 = .ok (.iconst 1, 1) := by decide +kernel
theorem d_OL_bar_41 : decode prog_1_method_4_code 41 = .ok (.ireturn, 1) := by decide +kernel
def f_OL_bar  (p1 : Int32) (x_o_wall_lamps : Int32) (x_o_wall_told_words : Nat → Int64) : Option (Int32 × (Nat → Int64)) :=
  (f_Wa_hasPicture  p1 x_o_wall_lamps).bind fun r1 =>
  if r1 = true then
    ((f_Pi_holds  p1 x_o_wall_told_words).bind fun r3 =>
    if r3 = true then
      (some ((0 : Int32), x_o_wall_told_words))
    else
      ((f_Pi_add  p1 x_o_wall_told_words).bind fun u5 =>
      some ((1 : Int32), u5)))
  else
    (some ((-1 : Int32), x_o_wall_told_words))
set_option maxRecDepth 20000 in
theorem c_OL_bar {l : Launch} {D : va_G} {dA : Nat → ClassId} {a_o a_o_wall a_o_imageOfWall a_o_rules a_o_tape a_o_costs a_o_thought a_o_acts a_o_shelves a_o_wall_had a_o_wall_told a_o_wall_last a_o_wall_often a_o_wall_told_words : Nat} {x_o_imageIsKept : Bool} {x_o_wall_picture : Int32} {x_o_wall_night : Int32} {x_o_wall_spent : Int32} {p1 : Int32} {x_o_wall_lamps : Int32} {x_o_wall_told_words : Nat → Int64} {r0 : Int32} {o_x_o_wall_told_words : Nat → Int64}   (hf : f_OL_bar  p1 x_o_wall_lamps x_o_wall_told_words = some (r0, o_x_o_wall_told_words)) : CT l y_OL_bar prog_1_method_4_code 2 (some .int) { frames := 2, cells := 0, slots := 0, locals := 41 } D dA [.ref a_o, .int p1] [O_OL a_o a_o_wall a_o_imageOfWall x_o_imageIsKept a_o_rules a_o_tape a_o_costs a_o_thought a_o_acts a_o_shelves, O_Wa a_o_wall x_o_wall_lamps x_o_wall_picture x_o_wall_night x_o_wall_spent a_o_wall_had a_o_wall_told a_o_wall_last a_o_wall_often, O_Pi a_o_wall_told a_o_wall_told_words, A_J dA a_o_wall_told_words 16 x_o_wall_told_words] (some (.int r0)) (fun _ : Unit => [O_OL a_o a_o_wall a_o_imageOfWall x_o_imageIsKept a_o_rules a_o_tape a_o_costs a_o_thought a_o_acts a_o_shelves, O_Wa a_o_wall x_o_wall_lamps x_o_wall_picture x_o_wall_night x_o_wall_spent a_o_wall_had a_o_wall_told a_o_wall_last a_o_wall_often, O_Pi a_o_wall_told a_o_wall_told_words, A_J dA a_o_wall_told_words 16 o_x_o_wall_told_words]) := by
  refine ct_intro "OneLamp" rfl (by decide +kernel) (Nat.le_of_ble_eq_true rfl) [(0, .ref a_o), (1, .int p1)] rfl (fun _ C => ?_)
  unfold f_OL_bar at hf
  refine g_aload_n (pc' := 1) C 0 d_OL_bar_0 rfl rfl ?_
  refine g_get (pc' := 4) C kf_OL 0 mw_2_44 d_OL_bar_1 rfl 0 rfl (by decide) rfl ?_
  refine g_iload_n (pc' := 5) C 1 d_OL_bar_4 rfl rfl ?_
  replace hf := g_bi hf; obtain ⟨r1, hc2, hf⟩ := hf
  refine g_callV (pc' := 8) (st1 := [.int (b2i r1)]) (ws1 := [O_OL a_o a_o_wall a_o_imageOfWall x_o_imageIsKept a_o_rules a_o_tape a_o_costs a_o_thought a_o_acts a_o_shelves, O_Wa a_o_wall x_o_wall_lamps x_o_wall_picture x_o_wall_night x_o_wall_spent a_o_wall_had a_o_wall_told a_o_wall_last a_o_wall_often, O_Pi a_o_wall_told a_o_wall_told_words, A_J dA a_o_wall_told_words 16 x_o_wall_told_words]) C (c_Wa_hasPicture (l := l) (D := D) (dA := dA) (a_o := a_o_wall) (a_o_had := a_o_wall_had) (a_o_told := a_o_wall_told) (a_o_last := a_o_wall_last) (a_o_often := a_o_wall_often) (x_o_picture := x_o_wall_picture) (x_o_night := x_o_wall_night) (x_o_spent := x_o_wall_spent)   hc2) yy_Wa_hasPicture kf_Wa rfl mw_2_82 d_OL_bar_5 rfl [] rfl rfl (Nat.le_of_ble_eq_true rfl) ⟨Nat.le_of_ble_eq_true rfl, Nat.le_of_ble_eq_true rfl⟩ rfl rfl (Nat.zero_le _) (Nat.zero_le _) 1 rfl [1] rfl (by decide +kernel) rfl (g_lay_sel _ _ _ _ [(0, false), (0, true), (2, false), (3, false)] (by decide +kernel) rfl (by decide +kernel) rfl rfl) rfl ?_
  refine g_if_neb (pc' := 11) (tgt := 13) C d_OL_bar_8 rfl rfl (fun h => ?_) (fun h => ?_)
  · replace hf := g_bt h hf
    refine g_aload_n (pc' := 14) C 0 d_OL_bar_13 rfl rfl ?_
    refine g_get (pc' := 17) C kf_OL 0 mw_2_44 d_OL_bar_14 rfl 0 rfl (by decide) rfl ?_
    refine g_get (pc' := 20) C kf_Wa 5 mw_1_81 d_OL_bar_17 rfl 1 rfl (by decide) rfl ?_
    refine g_iload_n (pc' := 21) C 1 d_OL_bar_20 rfl rfl ?_
    replace hf := g_bi hf; obtain ⟨r3, hc4, hf⟩ := hf
    refine g_callV (pc' := 24) (st1 := [.int (b2i r3)]) (ws1 := [O_OL a_o a_o_wall a_o_imageOfWall x_o_imageIsKept a_o_rules a_o_tape a_o_costs a_o_thought a_o_acts a_o_shelves, O_Wa a_o_wall x_o_wall_lamps x_o_wall_picture x_o_wall_night x_o_wall_spent a_o_wall_had a_o_wall_told a_o_wall_last a_o_wall_often, O_Pi a_o_wall_told a_o_wall_told_words, A_J dA a_o_wall_told_words 16 x_o_wall_told_words]) C (c_Pi_holds (l := l) (D := D) (dA := dA) (a_o := a_o_wall_told) (a_o_words := a_o_wall_told_words)   hc4) yy_Pi_holds kf_Pi rfl mw_2_90 d_OL_bar_21 rfl [] rfl rfl (Nat.le_of_ble_eq_true rfl) ⟨Nat.le_of_ble_eq_true rfl, Nat.le_of_ble_eq_true rfl⟩ rfl rfl (Nat.zero_le _) (Nat.zero_le _) 2 rfl [2, 3] rfl (by decide +kernel) rfl (g_lay_sel _ _ _ _ [(0, false), (1, false), (0, true), (1, true)] (by decide +kernel) rfl (by decide +kernel) rfl rfl) rfl ?_
    refine g_if_eqb (pc' := 27) (tgt := 29) C d_OL_bar_24 rfl rfl (fun h => ?_) (fun h => ?_)
    · replace hf := g_bf h hf
      refine g_aload_n (pc' := 30) C 0 d_OL_bar_29 rfl rfl ?_
      refine g_get (pc' := 33) C kf_OL 0 mw_2_44 d_OL_bar_30 rfl 0 rfl (by decide) rfl ?_
      refine g_get (pc' := 36) C kf_Wa 5 mw_1_81 d_OL_bar_33 rfl 1 rfl (by decide) rfl ?_
      refine g_iload_n (pc' := 37) C 1 d_OL_bar_36 rfl rfl ?_
      replace hf := g_bi hf; obtain ⟨u5, hc6, hf⟩ := hf
      refine g_callV (pc' := 40) (st1 := []) (ws1 := [O_OL a_o a_o_wall a_o_imageOfWall x_o_imageIsKept a_o_rules a_o_tape a_o_costs a_o_thought a_o_acts a_o_shelves, O_Wa a_o_wall x_o_wall_lamps x_o_wall_picture x_o_wall_night x_o_wall_spent a_o_wall_had a_o_wall_told a_o_wall_last a_o_wall_often, O_Pi a_o_wall_told a_o_wall_told_words, A_J dA a_o_wall_told_words 16 u5]) C (c_Pi_add (l := l) (D := D) (dA := dA) (a_o := a_o_wall_told) (a_o_words := a_o_wall_told_words)   hc6) yy_Pi_add kf_Pi rfl mw_2_94 d_OL_bar_37 rfl [] rfl rfl (Nat.le_of_ble_eq_true rfl) ⟨Nat.le_of_ble_eq_true rfl, Nat.le_of_ble_eq_true rfl⟩ rfl rfl (Nat.zero_le _) (Nat.zero_le _) 2 rfl [2, 3] rfl (by decide +kernel) rfl (g_lay_sel _ _ _ _ [(0, false), (1, false), (0, true), (1, true)] (by decide +kernel) rfl (by decide +kernel) rfl rfl) rfl ?_
      refine g_iconst (pc' := 41) (v := 1) C d_OL_bar_40 rfl rfl ?_
      replace hf := g_o2 hf; obtain ⟨h1, hf⟩ := hf; subst h1
      replace hf := Option.some.inj hf; subst hf
      exact g_iret C d_OL_bar_41 () rfl
    · replace hf := g_bt h hf
      refine g_iconst (pc' := 28) (v := 0) C d_OL_bar_27 rfl rfl ?_
      replace hf := g_o2 hf; obtain ⟨h1, hf⟩ := hf; subst h1
      replace hf := Option.some.inj hf; subst hf
      exact g_iret C d_OL_bar_28 () rfl
  · replace hf := g_bf h hf
    refine g_iconst (pc' := 12) (v := (-1)) C d_OL_bar_11 rfl rfl ?_
    replace hf := g_o2 hf; obtain ⟨h1, hf⟩ := hf; subst h1
    replace hf := Option.some.inj hf; subst hf
    exact g_iret C d_OL_bar_12 () rfl
def y_OL_isShelf : MethodName := ⟨"OneLamp", "isShelf", "(I)Z"⟩
theorem yy_OL_isShelf : YS y_OL_isShelf prog_1_method_37_code 1 (some .boolean) 1 := ⟨mw_2_101, mw_1_1, mw_2_100, by decide +kernel, by decide +kernel, by decide +kernel⟩
theorem d_OL_isShelf_0 : decode prog_1_method_37_code 0 = .ok (.iload_n 0, 1) := by decide +kernel
theorem d_OL_isShelf_1 : decode prog_1_method_37_code 1 = .ok (.ifCond .lt 13, 3) := by decide +kernel
theorem d_OL_isShelf_4 : decode prog_1_method_37_code 4 = .ok (.iload_n 0, 1) := by decide +kernel
theorem d_OL_isShelf_5 : decode prog_1_method_37_code 5 = .ok (.bipush 6, 2) := by decide +kernel
theorem d_OL_isShelf_7 : decode prog_1_method_37_code 7 = .ok (.if_icmp .ge 7, 3) := by decide +kernel
theorem d_OL_isShelf_10 : decode prog_1_method_37_code 10 = .ok (.iconst 1, 1) := by decide +kernel
theorem d_OL_isShelf_11 : decode prog_1_method_37_code 11 = .ok (.goto 4, 3) := by decide +kernel
theorem d_OL_isShelf_14 : decode prog_1_method_37_code 14 = .ok (.iconst 0, 1) := by decide +kernel
theorem d_OL_isShelf_15 : decode prog_1_method_37_code 15 = .ok (.ireturn, 1) := by decide +kernel
def f_OL_isShelf  (p0 : Int32) : Option (Bool) :=
  if p0 < 0 then
    (some (false))
  else
    (if (6 : Int32) ≤ p0 then
      (some (false))
    else
      (some (true)))
set_option maxRecDepth 20000 in
theorem c_OL_isShelf {l : Launch} {D : va_G} {dA : Nat → ClassId}   {p0 : Int32} {r0 : Bool}   (hf : f_OL_isShelf  p0 = some r0) : CT l y_OL_isShelf prog_1_method_37_code 1 (some .boolean) { frames := 0, cells := 0, slots := 0, locals := 0 } D dA [.int p0] [] (some (.int (b2i r0))) (fun _ : Unit => []) := by
  refine ct_intro "OneLamp" rfl (by decide +kernel) (Nat.le_of_ble_eq_true rfl) [(0, .int p0)] rfl (fun _ C => ?_)
  unfold f_OL_isShelf at hf
  refine g_iload_n (pc' := 1) C 0 d_OL_isShelf_0 rfl rfl ?_
  refine g_if_lt (pc' := 4) (tgt := 14) C d_OL_isShelf_1 rfl rfl (fun h => ?_) (fun h => ?_)
  · replace hf := g_ip h hf
    refine g_iconst (pc' := 15) (v := 0) C d_OL_isShelf_14 rfl rfl ?_
    replace hf := Option.some.inj hf; subst hf
    exact g_zret C d_OL_isShelf_15 () rfl
  · replace hf := g_in h hf
    refine g_iload_n (pc' := 5) C 0 d_OL_isShelf_4 rfl rfl ?_
    refine g_bipush (pc' := 7) (v := 6) C d_OL_isShelf_5 rfl rfl ?_
    refine g_icmp_ge (pc' := 10) (tgt := 14) C d_OL_isShelf_7 rfl rfl (fun h => ?_) (fun h => ?_)
    · replace hf := g_ip h hf
      refine g_iconst (pc' := 15) (v := 0) C d_OL_isShelf_14 rfl rfl ?_
      replace hf := Option.some.inj hf; subst hf
      exact g_zret C d_OL_isShelf_15 () rfl
    · replace hf := g_in h hf
      refine g_iconst (pc' := 11) (v := 1) C d_OL_isShelf_10 rfl rfl ?_
      refine g_goto (tgt := 15) C d_OL_isShelf_11 rfl ?_
      replace hf := Option.some.inj hf; subst hf
      exact g_zret C d_OL_isShelf_15 () rfl
def y_OL_bars : MethodName := ⟨"OneLamp", "bars", "(III)I"⟩
theorem yy_OL_bars : YV y_OL_bars prog_1_method_5_code 7 (some .int) 3 := ⟨mw_2_98, mw_1_1, mw_2_96, mw_2_97, by decide +kernel, by decide +kernel, by decide +kernel⟩
theorem d_OL_bars_0 : decode prog_1_method_5_code 0 = .ok (.iload_n 1, 1) := by decide +kernel
theorem d_OL_bars_1 : decode prog_1_method_5_code 1 = .ok (.invokestatic 88, 3) := by decide +kernel
theorem d_OL_bars_4 : decode prog_1_method_5_code 4 = .ok (.ifCond .eq 14, 3) := by decide +kernel
theorem d_OL_bars_7 : decode prog_1_method_5_code 7 = .ok (.iload_n 3, 1) := by decide +kernel
theorem d_OL_bars_8 : decode prog_1_method_5_code 8 = .ok (.iconst 1, 1) := by decide +kernel
theorem d_OL_bars_9 : decode prog_1_method_5_code 9 = .ok (.if_icmp .lt 9, 3) := by decide +kernel
theorem d_OL_bars_12 : decode prog_1_method_5_code 12 = .ok (.iload_n 3, 1) := by decide +kernel
theorem d_OL_bars_13 : decode prog_1_method_5_code 13 = .ok (.bipush 30, 2) := by decide +kernel
theorem d_OL_bars_15 : decode prog_1_method_5_code 15 = .ok (.if_icmp .le 5, 3) := by decide +kernel
theorem d_OL_bars_18 : decode prog_1_method_5_code 18 = .ok (.iconst (-1), 1) := by decide +kernel
theorem d_OL_bars_19 : decode prog_1_method_5_code 19 = .ok (.ireturn, 1) := by decide +kernel
theorem d_OL_bars_20 : decode prog_1_method_5_code 20 = .ok (.aload_n 0, 1) := by decide +kernel
theorem d_OL_bars_21 : decode prog_1_method_5_code 21 = .ok (.getfield 56, 3) := by decide +kernel
theorem d_OL_bars_24 : decode prog_1_method_5_code 24 = .ok (.iload_n 1, 1) := by decide +kernel
theorem d_OL_bars_25 : decode prog_1_method_5_code 25 = .ok (.aaload, 1) := by decide +kernel
theorem d_OL_bars_26 : decode prog_1_method_5_code 26 = .ok (.astore 4, 2) := by decide +kernel
theorem d_OL_bars_28 : decode prog_1_method_5_code 28 = .ok (.aload 4, 2) := by decide +kernel
theorem d_OL_bars_30 : decode prog_1_method_5_code 30 = .ok (.invokevirtual 91, 3) := by decide +kernel
theorem d_OL_bars_33 : decode prog_1_method_5_code 33 = .ok (.ifCond .eq 5, 3) := by decide +kernel
theorem d_OL_bars_36 : decode prog_1_method_5_code 36 = .ok (.iconst 0, 1) := by decide +kernel
theorem d_OL_bars_37 : decode prog_1_method_5_code 37 = .ok (.ireturn, 1) := by decide +kernel
theorem d_OL_bars_38 : decode prog_1_method_5_code 38 = .ok (.aload 4, 2) := by decide +kernel
theorem d_OL_bars_40 : decode prog_1_method_5_code 40 = .ok (.iconst 1, 1) := by decide +kernel
theorem d_OL_bars_41 : decode prog_1_method_5_code 41 = .ok (.invokevirtual 95, 3) := by decide +kernel
theorem d_OL_bars_44 : decode prog_1_method_5_code 44 = .ok (.ifCond .ne 6, 3) := by decide +kernel
theorem d_OL_bars_47 : decode prog_1_method_5_code 47 = .ok (.bipush (-12), 2) := by decide +kernel
theorem d_OL_bars_49 : decode prog_1_method_5_code 49 = .ok (.ireturn, 1) := by decide +kernel
theorem d_OL_bars_50 : decode prog_1_method_5_code 50 = .ok (.iconst 0, 1) := by decide +kernel
theorem d_OL_bars_51 : decode prog_1_method_5_code 51 = .ok (.istore 5, 2) := by decide +kernel
theorem d_OL_bars_53 : decode prog_1_method_5_code 53 = .ok (.iload 5, 2) := by decide +kernel
theorem d_OL_bars_55 : decode prog_1_method_5_code 55 = .ok (.iload_n 3, 1) := by decide +kernel
theorem d_OL_bars_56 : decode prog_1_method_5_code 56 = .ok (.if_icmp .ge 72, 3) := by decide +kernel
theorem d_OL_bars_59 : decode prog_1_method_5_code 59 = .ok (.aload 4, 2) := by decide +kernel
theorem d_OL_bars_61 : decode prog_1_method_5_code 61 = .ok (.iload_n 2, 1) := by decide +kernel
theorem d_OL_bars_62 : decode prog_1_method_5_code 62 = .ok (.invokevirtual 98, 3) := by decide +kernel
theorem d_OL_bars_65 : decode prog_1_method_5_code 65 = .ok (.ifCond .eq 15, 3) := by decide +kernel
theorem d_OL_bars_68 : decode prog_1_method_5_code 68 = .ok (.aload 4, 2) := by decide +kernel
theorem d_OL_bars_70 : decode prog_1_method_5_code 70 = .ok (.iload_n 2, 1) := by decide +kernel
theorem d_OL_bars_71 : decode prog_1_method_5_code 71 = .ok (.iload 5, 2) := by decide +kernel
theorem d_OL_bars_73 : decode prog_1_method_5_code 73 = .ok (.iadd, 1) := by decide +kernel
theorem d_OL_bars_74 : decode prog_1_method_5_code 74 = .ok (.invokevirtual 98, 3) := by decide +kernel
theorem d_OL_bars_77 : decode prog_1_method_5_code 77 = .ok (.ifCond .ne 6, 3) := by decide +kernel
theorem d_OL_bars_80 : decode prog_1_method_5_code 80 = .ok (.iload 5, 2) := by decide +kernel
theorem d_OL_bars_82 : decode prog_1_method_5_code 82 = .ok (.ireturn, 1) := by decide +kernel
theorem d_OL_bars_83 : decode prog_1_method_5_code 83 = .ok (.aload 4, 2) := by decide +kernel
theorem d_OL_bars_85 : decode prog_1_method_5_code 85 = .ok (.iload_n 2, 1) := by decide +kernel
theorem d_OL_bars_86 : decode prog_1_method_5_code 86 = .ok (.iload 5, 2) := by decide +kernel
theorem d_OL_bars_88 : decode prog_1_method_5_code 88 = .ok (.iadd, 1) := by decide +kernel
theorem d_OL_bars_89 : decode prog_1_method_5_code 89 = .ok (.invokevirtual 101, 3) := by decide +kernel
theorem d_OL_bars_92 : decode prog_1_method_5_code 92 = .ok (.l2i, 1) := by decide +kernel
theorem d_OL_bars_93 : decode prog_1_method_5_code 93 = .ok (.istore 6, 2) := by decide +kernel
theorem d_OL_bars_95 : decode prog_1_method_5_code 95 = .ok (.aload_n 0, 1) := by decide +kernel
theorem d_OL_bars_96 : decode prog_1_method_5_code 96 = .ok (.getfield 10, 3) := by decide +kernel
theorem d_OL_bars_99 : decode prog_1_method_5_code 99 = .ok (.iload 6, 2) := by decide +kernel
theorem d_OL_bars_101 : decode prog_1_method_5_code 101 = .ok (.invokevirtual 78, 3) := by decide +kernel
theorem d_OL_bars_104 : decode prog_1_method_5_code 104 = .ok (.ifCond .ne 6, 3) := by decide +kernel
theorem d_OL_bars_107 : decode prog_1_method_5_code 107 = .ok (.iload 5, 2) := by decide +kernel
theorem d_OL_bars_109 : decode prog_1_method_5_code 109 = .ok (.ireturn, 1) := by decide +kernel
theorem d_OL_bars_110 : decode prog_1_method_5_code 110 = .ok (.aload_n 0, 1) := by decide +kernel
theorem d_OL_bars_111 : decode prog_1_method_5_code 111 = .ok (.getfield 10, 3) := by decide +kernel
theorem d_OL_bars_114 : decode prog_1_method_5_code 114 = .ok (.getfield 65, 3) := by decide +kernel
theorem d_OL_bars_117 : decode prog_1_method_5_code 117 = .ok (.iload 6, 2) := by decide +kernel
theorem d_OL_bars_119 : decode prog_1_method_5_code 119 = .ok (.invokevirtual 85, 3) := by decide +kernel
theorem d_OL_bars_122 : decode prog_1_method_5_code 122 = .ok (.iinc 5 1, 3) := by decide +kernel
theorem d_OL_bars_125 : decode prog_1_method_5_code 125 = .ok (.goto (-72), 3) := by decide +kernel
theorem d_OL_bars_128 : decode prog_1_method_5_code 128 = .ok (.iload_n 3, 1) := by decide +kernel
theorem d_OL_bars_129 : decode prog_1_method_5_code 129 = .ok (.ireturn, 1) := by decide +kernel
def f_OL_bars_L53   : Nat → Int32 → Int32 → Int32 → Int32 → Int32 → (Nat → Int64) → Int32 → (Nat → Int64) → Option (Int32 × (Nat → Int64))
  | 0, _, _, _, _, _, _, _, _ => none
  | n + 1, v2, v3, v5, x_o_shelves_ep1_holds, x_o_shelves_ep1_length, x_o_shelves_ep1_elements, x_o_wall_lamps, x_o_wall_told_words =>
    if v3 ≤ v5 then
      (some (v3, x_o_wall_told_words))
    else
      ((f_Sh_hasPlace  v2 x_o_shelves_ep1_holds x_o_shelves_ep1_length).bind fun r1 =>
      if r1 = true then
        ((f_Sh_hasPlace  (v2 + v5) x_o_shelves_ep1_holds x_o_shelves_ep1_length).bind fun r3 =>
        if r3 = true then
          ((f_Sh_elementAt  (v2 + v5) x_o_shelves_ep1_holds x_o_shelves_ep1_length x_o_shelves_ep1_elements).bind fun r5 =>
          (f_Wa_hasPicture  (Int64.toInt32 r5) x_o_wall_lamps).bind fun r7 =>
          if r7 = true then
            ((f_Pi_add  (Int64.toInt32 r5) x_o_wall_told_words).bind fun u9 =>
            f_OL_bars_L53  n v2 v3 (v5 + 1) x_o_shelves_ep1_holds x_o_shelves_ep1_length x_o_shelves_ep1_elements x_o_wall_lamps u9)
          else
            (some (v5, x_o_wall_told_words)))
        else
          (some (v5, x_o_wall_told_words)))
      else
        (some (v5, x_o_wall_told_words)))
set_option maxRecDepth 20000 in
theorem w_OL_bars_L53 {p : Program} {l : Launch} {e : Env} {s : State} {m : MethodId} {args : Array Value} {below : List Frame} {meth : Method} {c : Code} {D : va_G} {dA : Nat → ClassId} {A : Nat → Prop} (C : GC p s m args meth c prog_1_method_5_code 7 "OneLamp" (some .int) D dA A) {a_o a_o_wall a_o_imageOfWall a_o_rules a_o_tape a_o_costs a_o_thought a_o_acts a_o_shelves a_o_shelves_ep1 a_o_shelves_ep1_elements a_o_wall_had a_o_wall_told a_o_wall_last a_o_wall_often a_o_wall_told_words : Nat} {x_o_imageIsKept : Bool} {x_o_shelves : Nat → Option Nat} {x_o_shelves_ep1_body : Int32} {x_o_shelves_ep1_sort : Int32} {x_o_wall_picture : Int32} {x_o_wall_night : Int32} {x_o_wall_spent : Int32} {p1 : Int32} {r0 : Int32} {o_x_o_wall_told_words : Nat → Int64} (he_p1 : x_o_shelves (Int32.toNatClampNeg p1) = some a_o_shelves_ep1)   : ∀ (n : Nat) (v2 : Int32) (v3 : Int32) (v5 : Int32) (x_o_shelves_ep1_holds : Int32) (x_o_shelves_ep1_length : Int32) (x_o_shelves_ep1_elements : Nat → Int64) (x_o_wall_lamps : Int32) (x_o_wall_told_words : Nat → Int64), f_OL_bars_L53   n v2 v3 v5 x_o_shelves_ep1_holds x_o_shelves_ep1_length x_o_shelves_ep1_elements x_o_wall_lamps x_o_wall_told_words = some (r0, o_x_o_wall_told_words) → GG p l e { frames := 2, cells := 0, slots := 0, locals := 42 } s m args below meth c 7 D A 0 0 (MQ below (cQ D A (some (.int r0)) (fun _ : Unit => [O_OL a_o a_o_wall a_o_imageOfWall x_o_imageIsKept a_o_rules a_o_tape a_o_costs a_o_thought a_o_acts a_o_shelves, A_Q dA a_o_shelves 6 x_o_shelves, O_Sh a_o_shelves_ep1 x_o_shelves_ep1_holds x_o_shelves_ep1_body x_o_shelves_ep1_sort x_o_shelves_ep1_length a_o_shelves_ep1_elements, A_J dA a_o_shelves_ep1_elements 60 x_o_shelves_ep1_elements, O_Wa a_o_wall x_o_wall_lamps x_o_wall_picture x_o_wall_night x_o_wall_spent a_o_wall_had a_o_wall_told a_o_wall_last a_o_wall_often, O_Pi a_o_wall_told a_o_wall_told_words, A_J dA a_o_wall_told_words 16 o_x_o_wall_told_words])) args s 0 0 A) 53 [(0, .ref a_o), (2, .int v2), (3, .int v3), (4, .ref a_o_shelves_ep1), (5, .int v5)] [] [O_OL a_o a_o_wall a_o_imageOfWall x_o_imageIsKept a_o_rules a_o_tape a_o_costs a_o_thought a_o_acts a_o_shelves, A_Q dA a_o_shelves 6 x_o_shelves, O_Sh a_o_shelves_ep1 x_o_shelves_ep1_holds x_o_shelves_ep1_body x_o_shelves_ep1_sort x_o_shelves_ep1_length a_o_shelves_ep1_elements, A_J dA a_o_shelves_ep1_elements 60 x_o_shelves_ep1_elements, O_Wa a_o_wall x_o_wall_lamps x_o_wall_picture x_o_wall_night x_o_wall_spent a_o_wall_had a_o_wall_told a_o_wall_last a_o_wall_often, O_Pi a_o_wall_told a_o_wall_told_words, A_J dA a_o_wall_told_words 16 x_o_wall_told_words] := by
  intro n
  induction n with
  | zero =>
    intro v2 v3 v5 x_o_shelves_ep1_holds x_o_shelves_ep1_length x_o_shelves_ep1_elements x_o_wall_lamps x_o_wall_told_words hf
    cases hf
  | succ n ih =>
    intro v2 v3 v5 x_o_shelves_ep1_holds x_o_shelves_ep1_length x_o_shelves_ep1_elements x_o_wall_lamps x_o_wall_told_words hf
    unfold f_OL_bars_L53 at hf
    refine g_iload (pc' := 55) C 4 d_OL_bars_53 rfl rfl ?_
    refine g_iload_n (pc' := 56) C 2 d_OL_bars_55 rfl rfl ?_
    refine g_icmp_ge (pc' := 59) (tgt := 128) C d_OL_bars_56 rfl rfl (fun h => ?_) (fun h => ?_)
    · replace hf := g_ip h hf
      refine g_iload_n (pc' := 129) C 2 d_OL_bars_128 rfl rfl ?_
      replace hf := g_o2 hf; obtain ⟨h1, hf⟩ := hf; subst h1
      replace hf := Option.some.inj hf; subst hf
      exact g_iret C d_OL_bars_129 () rfl
    · replace hf := g_in h hf
      refine g_aload (pc' := 61) C 3 d_OL_bars_59 rfl rfl ?_
      refine g_iload_n (pc' := 62) C 1 d_OL_bars_61 rfl rfl ?_
      replace hf := g_bi hf; obtain ⟨r1, hc2, hf⟩ := hf
      refine g_callV (pc' := 65) (st1 := [.int (b2i r1)]) (ws1 := [O_OL a_o a_o_wall a_o_imageOfWall x_o_imageIsKept a_o_rules a_o_tape a_o_costs a_o_thought a_o_acts a_o_shelves, A_Q dA a_o_shelves 6 x_o_shelves, O_Sh a_o_shelves_ep1 x_o_shelves_ep1_holds x_o_shelves_ep1_body x_o_shelves_ep1_sort x_o_shelves_ep1_length a_o_shelves_ep1_elements, A_J dA a_o_shelves_ep1_elements 60 x_o_shelves_ep1_elements, O_Wa a_o_wall x_o_wall_lamps x_o_wall_picture x_o_wall_night x_o_wall_spent a_o_wall_had a_o_wall_told a_o_wall_last a_o_wall_often, O_Pi a_o_wall_told a_o_wall_told_words, A_J dA a_o_wall_told_words 16 x_o_wall_told_words]) C (c_Sh_hasPlace (l := l) (D := D) (dA := dA) (a_o := a_o_shelves_ep1) (a_o_elements := a_o_shelves_ep1_elements) (x_o_body := x_o_shelves_ep1_body) (x_o_sort := x_o_shelves_ep1_sort)   hc2) yy_Sh_hasPlace kf_Sh rfl mw_2_110 d_OL_bars_62 rfl [] rfl rfl (Nat.le_of_ble_eq_true rfl) ⟨Nat.le_of_ble_eq_true rfl, Nat.le_of_ble_eq_true rfl⟩ rfl rfl (Nat.zero_le _) (Nat.zero_le _) 2 rfl [2] rfl (by decide +kernel) rfl (g_lay_sel _ _ _ _ [(0, false), (1, false), (0, true), (3, false), (4, false), (5, false), (6, false)] (by decide +kernel) rfl (by decide +kernel) rfl rfl) rfl ?_
      refine g_if_eqb (pc' := 68) (tgt := 80) C d_OL_bars_65 rfl rfl (fun h => ?_) (fun h => ?_)
      · replace hf := g_bf h hf
        refine g_iload (pc' := 82) C 4 d_OL_bars_80 rfl rfl ?_
        replace hf := g_o2 hf; obtain ⟨h1, hf⟩ := hf; subst h1
        replace hf := Option.some.inj hf; subst hf
        exact g_iret C d_OL_bars_82 () rfl
      · replace hf := g_bt h hf
        refine g_aload (pc' := 70) C 3 d_OL_bars_68 rfl rfl ?_
        refine g_iload_n (pc' := 71) C 1 d_OL_bars_70 rfl rfl ?_
        refine g_iload (pc' := 73) C 4 d_OL_bars_71 rfl rfl ?_
        refine g_iadd (pc' := 74) C d_OL_bars_73 rfl ?_
        replace hf := g_bi hf; obtain ⟨r3, hc4, hf⟩ := hf
        refine g_callV (pc' := 77) (st1 := [.int (b2i r3)]) (ws1 := [O_OL a_o a_o_wall a_o_imageOfWall x_o_imageIsKept a_o_rules a_o_tape a_o_costs a_o_thought a_o_acts a_o_shelves, A_Q dA a_o_shelves 6 x_o_shelves, O_Sh a_o_shelves_ep1 x_o_shelves_ep1_holds x_o_shelves_ep1_body x_o_shelves_ep1_sort x_o_shelves_ep1_length a_o_shelves_ep1_elements, A_J dA a_o_shelves_ep1_elements 60 x_o_shelves_ep1_elements, O_Wa a_o_wall x_o_wall_lamps x_o_wall_picture x_o_wall_night x_o_wall_spent a_o_wall_had a_o_wall_told a_o_wall_last a_o_wall_often, O_Pi a_o_wall_told a_o_wall_told_words, A_J dA a_o_wall_told_words 16 x_o_wall_told_words]) C (c_Sh_hasPlace (l := l) (D := D) (dA := dA) (a_o := a_o_shelves_ep1) (a_o_elements := a_o_shelves_ep1_elements) (x_o_body := x_o_shelves_ep1_body) (x_o_sort := x_o_shelves_ep1_sort)   hc4) yy_Sh_hasPlace kf_Sh rfl mw_2_110 d_OL_bars_74 rfl [] rfl rfl (Nat.le_of_ble_eq_true rfl) ⟨Nat.le_of_ble_eq_true rfl, Nat.le_of_ble_eq_true rfl⟩ rfl rfl (Nat.zero_le _) (Nat.zero_le _) 2 rfl [2] rfl (by decide +kernel) rfl (g_lay_sel _ _ _ _ [(0, false), (1, false), (0, true), (3, false), (4, false), (5, false), (6, false)] (by decide +kernel) rfl (by decide +kernel) rfl rfl) rfl ?_
        refine g_if_neb (pc' := 80) (tgt := 83) C d_OL_bars_77 rfl rfl (fun h => ?_) (fun h => ?_)
        · replace hf := g_bt h hf
          refine g_aload (pc' := 85) C 3 d_OL_bars_83 rfl rfl ?_
          refine g_iload_n (pc' := 86) C 1 d_OL_bars_85 rfl rfl ?_
          refine g_iload (pc' := 88) C 4 d_OL_bars_86 rfl rfl ?_
          refine g_iadd (pc' := 89) C d_OL_bars_88 rfl ?_
          replace hf := g_bi hf; obtain ⟨r5, hc6, hf⟩ := hf
          refine g_callV (pc' := 92) (st1 := [.long r5]) (ws1 := [O_OL a_o a_o_wall a_o_imageOfWall x_o_imageIsKept a_o_rules a_o_tape a_o_costs a_o_thought a_o_acts a_o_shelves, A_Q dA a_o_shelves 6 x_o_shelves, O_Sh a_o_shelves_ep1 x_o_shelves_ep1_holds x_o_shelves_ep1_body x_o_shelves_ep1_sort x_o_shelves_ep1_length a_o_shelves_ep1_elements, A_J dA a_o_shelves_ep1_elements 60 x_o_shelves_ep1_elements, O_Wa a_o_wall x_o_wall_lamps x_o_wall_picture x_o_wall_night x_o_wall_spent a_o_wall_had a_o_wall_told a_o_wall_last a_o_wall_often, O_Pi a_o_wall_told a_o_wall_told_words, A_J dA a_o_wall_told_words 16 x_o_wall_told_words]) C (c_Sh_elementAt (l := l) (D := D) (dA := dA) (a_o := a_o_shelves_ep1) (a_o_elements := a_o_shelves_ep1_elements) (x_o_body := x_o_shelves_ep1_body) (x_o_sort := x_o_shelves_ep1_sort)   hc6) yy_Sh_elementAt kf_Sh rfl mw_2_114 d_OL_bars_89 rfl [] rfl rfl (Nat.le_of_ble_eq_true rfl) ⟨Nat.le_of_ble_eq_true rfl, Nat.le_of_ble_eq_true rfl⟩ rfl rfl (Nat.zero_le _) (Nat.zero_le _) 2 rfl [2, 3] rfl (by decide +kernel) rfl (g_lay_sel _ _ _ _ [(0, false), (1, false), (0, true), (1, true), (4, false), (5, false), (6, false)] (by decide +kernel) rfl (by decide +kernel) rfl rfl) rfl ?_
          refine g_l2i (pc' := 93) C d_OL_bars_92 rfl ?_
          refine g_istore (pc' := 95) (lv' := [(6, .int (Int64.toInt32 r5)), (0, .ref a_o), (2, .int v2), (3, .int v3), (4, .ref a_o_shelves_ep1), (5, .int v5)]) C d_OL_bars_93 rfl (by decide) rfl ?_
          refine g_aload_n (pc' := 96) C 1 d_OL_bars_95 rfl rfl ?_
          refine g_get (pc' := 99) C kf_OL 0 mw_2_44 d_OL_bars_96 rfl 0 rfl (by decide) rfl ?_
          refine g_iload (pc' := 101) C 0 d_OL_bars_99 rfl rfl ?_
          replace hf := g_bi hf; obtain ⟨r7, hc8, hf⟩ := hf
          refine g_callV (pc' := 104) (st1 := [.int (b2i r7)]) (ws1 := [O_OL a_o a_o_wall a_o_imageOfWall x_o_imageIsKept a_o_rules a_o_tape a_o_costs a_o_thought a_o_acts a_o_shelves, A_Q dA a_o_shelves 6 x_o_shelves, O_Sh a_o_shelves_ep1 x_o_shelves_ep1_holds x_o_shelves_ep1_body x_o_shelves_ep1_sort x_o_shelves_ep1_length a_o_shelves_ep1_elements, A_J dA a_o_shelves_ep1_elements 60 x_o_shelves_ep1_elements, O_Wa a_o_wall x_o_wall_lamps x_o_wall_picture x_o_wall_night x_o_wall_spent a_o_wall_had a_o_wall_told a_o_wall_last a_o_wall_often, O_Pi a_o_wall_told a_o_wall_told_words, A_J dA a_o_wall_told_words 16 x_o_wall_told_words]) C (c_Wa_hasPicture (l := l) (D := D) (dA := dA) (a_o := a_o_wall) (a_o_had := a_o_wall_had) (a_o_told := a_o_wall_told) (a_o_last := a_o_wall_last) (a_o_often := a_o_wall_often) (x_o_picture := x_o_wall_picture) (x_o_night := x_o_wall_night) (x_o_spent := x_o_wall_spent)   hc8) yy_Wa_hasPicture kf_Wa rfl mw_2_82 d_OL_bars_101 rfl [] rfl rfl (Nat.le_of_ble_eq_true rfl) ⟨Nat.le_of_ble_eq_true rfl, Nat.le_of_ble_eq_true rfl⟩ rfl rfl (Nat.zero_le _) (Nat.zero_le _) 4 rfl [4] rfl (by decide +kernel) rfl (g_lay_sel _ _ _ _ [(0, false), (1, false), (2, false), (3, false), (0, true), (5, false), (6, false)] (by decide +kernel) rfl (by decide +kernel) rfl rfl) rfl ?_
          refine g_if_neb (pc' := 107) (tgt := 110) C d_OL_bars_104 rfl rfl (fun h => ?_) (fun h => ?_)
          · replace hf := g_bt h hf
            refine g_aload_n (pc' := 111) C 1 d_OL_bars_110 rfl rfl ?_
            refine g_get (pc' := 114) C kf_OL 0 mw_2_44 d_OL_bars_111 rfl 0 rfl (by decide) rfl ?_
            refine g_get (pc' := 117) C kf_Wa 5 mw_1_81 d_OL_bars_114 rfl 4 rfl (by decide) rfl ?_
            refine g_iload (pc' := 119) C 0 d_OL_bars_117 rfl rfl ?_
            replace hf := g_bi hf; obtain ⟨u9, hc10, hf⟩ := hf
            refine g_callV (pc' := 122) (st1 := []) (ws1 := [O_OL a_o a_o_wall a_o_imageOfWall x_o_imageIsKept a_o_rules a_o_tape a_o_costs a_o_thought a_o_acts a_o_shelves, A_Q dA a_o_shelves 6 x_o_shelves, O_Sh a_o_shelves_ep1 x_o_shelves_ep1_holds x_o_shelves_ep1_body x_o_shelves_ep1_sort x_o_shelves_ep1_length a_o_shelves_ep1_elements, A_J dA a_o_shelves_ep1_elements 60 x_o_shelves_ep1_elements, O_Wa a_o_wall x_o_wall_lamps x_o_wall_picture x_o_wall_night x_o_wall_spent a_o_wall_had a_o_wall_told a_o_wall_last a_o_wall_often, O_Pi a_o_wall_told a_o_wall_told_words, A_J dA a_o_wall_told_words 16 u9]) C (c_Pi_add (l := l) (D := D) (dA := dA) (a_o := a_o_wall_told) (a_o_words := a_o_wall_told_words)   hc10) yy_Pi_add kf_Pi rfl mw_2_94 d_OL_bars_119 rfl [] rfl rfl (Nat.le_of_ble_eq_true rfl) ⟨Nat.le_of_ble_eq_true rfl, Nat.le_of_ble_eq_true rfl⟩ rfl rfl (Nat.zero_le _) (Nat.zero_le _) 5 rfl [5, 6] rfl (by decide +kernel) rfl (g_lay_sel _ _ _ _ [(0, false), (1, false), (2, false), (3, false), (4, false), (0, true), (1, true)] (by decide +kernel) rfl (by decide +kernel) rfl rfl) rfl ?_
            refine g_iinc (pc' := 125) (j := 5) (v := (v5 + 1)) (lv' := [(5, .int (v5 + 1)), (6, .int (Int64.toInt32 r5)), (0, .ref a_o), (2, .int v2), (3, .int v3), (4, .ref a_o_shelves_ep1)]) C d_OL_bars_122 rfl rfl rfl (by decide) rfl ?_
            refine g_goto (tgt := 53) C d_OL_bars_125 rfl ?_
            refine g_lv (lv' := [(0, .ref a_o), (2, .int v2), (3, .int v3), (4, .ref a_o_shelves_ep1), (5, .int (v5 + 1))]) [2, 3, 4, 5, 0] rfl ?_
            exact ih v2 v3 (v5 + 1) x_o_shelves_ep1_holds x_o_shelves_ep1_length x_o_shelves_ep1_elements x_o_wall_lamps u9 hf
          · replace hf := g_bf h hf
            refine g_iload (pc' := 109) C 5 d_OL_bars_107 rfl rfl ?_
            replace hf := g_o2 hf; obtain ⟨h1, hf⟩ := hf; subst h1
            replace hf := Option.some.inj hf; subst hf
            exact g_iret C d_OL_bars_109 () rfl
        · replace hf := g_bf h hf
          refine g_iload (pc' := 82) C 4 d_OL_bars_80 rfl rfl ?_
          replace hf := g_o2 hf; obtain ⟨h1, hf⟩ := hf; subst h1
          replace hf := Option.some.inj hf; subst hf
          exact g_iret C d_OL_bars_82 () rfl
def f_OL_bars  (p1 : Int32) (p2 : Int32) (p3 : Int32) (x_o_shelves_ep1_holds : Int32) (x_o_shelves_ep1_sort : Int32) (x_o_shelves_ep1_length : Int32) (x_o_shelves_ep1_elements : Nat → Int64) (x_o_wall_lamps : Int32) (x_o_wall_told_words : Nat → Int64) : Option (Int32 × (Nat → Int64)) :=
  (f_OL_isShelf  p1).bind fun r11 =>
  if r11 = true then
    (if p3 < (1 : Int32) then
      (some ((-1 : Int32), x_o_wall_told_words))
    else
      (if p3 ≤ (30 : Int32) then
        (if p1 < 0 ∨ 6 ≤ Int32.toNatClampNeg p1 then none else
        (f_Sh_isEmpty  x_o_shelves_ep1_holds).bind fun r13 =>
        if r13 = true then
          (some ((0 : Int32), x_o_wall_told_words))
        else
          ((f_Sh_isRowOf  (1 : Int32) x_o_shelves_ep1_holds x_o_shelves_ep1_sort).bind fun r15 =>
          if r15 = true then
            (f_OL_bars_L53  3000 p2 p3 (0 : Int32) x_o_shelves_ep1_holds x_o_shelves_ep1_length x_o_shelves_ep1_elements x_o_wall_lamps x_o_wall_told_words)
          else
            (some ((-12 : Int32), x_o_wall_told_words))))
      else
        (some ((-1 : Int32), x_o_wall_told_words))))
  else
    (some ((-1 : Int32), x_o_wall_told_words))
set_option maxRecDepth 20000 in
theorem c_OL_bars {l : Launch} {D : va_G} {dA : Nat → ClassId} {a_o a_o_wall a_o_imageOfWall a_o_rules a_o_tape a_o_costs a_o_thought a_o_acts a_o_shelves a_o_shelves_ep1 a_o_shelves_ep1_elements a_o_wall_had a_o_wall_told a_o_wall_last a_o_wall_often a_o_wall_told_words : Nat} {x_o_imageIsKept : Bool} {x_o_shelves : Nat → Option Nat} {x_o_shelves_ep1_body : Int32} {x_o_wall_picture : Int32} {x_o_wall_night : Int32} {x_o_wall_spent : Int32} {p1 : Int32} {p2 : Int32} {p3 : Int32} {x_o_shelves_ep1_holds : Int32} {x_o_shelves_ep1_sort : Int32} {x_o_shelves_ep1_length : Int32} {x_o_shelves_ep1_elements : Nat → Int64} {x_o_wall_lamps : Int32} {x_o_wall_told_words : Nat → Int64} {r0 : Int32} {o_x_o_wall_told_words : Nat → Int64}  (he_p1 : x_o_shelves (Int32.toNatClampNeg p1) = some a_o_shelves_ep1) (hf : f_OL_bars  p1 p2 p3 x_o_shelves_ep1_holds x_o_shelves_ep1_sort x_o_shelves_ep1_length x_o_shelves_ep1_elements x_o_wall_lamps x_o_wall_told_words = some (r0, o_x_o_wall_told_words)) : CT l y_OL_bars prog_1_method_5_code 7 (some .int) { frames := 2, cells := 0, slots := 0, locals := 42 } D dA [.ref a_o, .int p1, .int p2, .int p3] [O_OL a_o a_o_wall a_o_imageOfWall x_o_imageIsKept a_o_rules a_o_tape a_o_costs a_o_thought a_o_acts a_o_shelves, A_Q dA a_o_shelves 6 x_o_shelves, O_Sh a_o_shelves_ep1 x_o_shelves_ep1_holds x_o_shelves_ep1_body x_o_shelves_ep1_sort x_o_shelves_ep1_length a_o_shelves_ep1_elements, A_J dA a_o_shelves_ep1_elements 60 x_o_shelves_ep1_elements, O_Wa a_o_wall x_o_wall_lamps x_o_wall_picture x_o_wall_night x_o_wall_spent a_o_wall_had a_o_wall_told a_o_wall_last a_o_wall_often, O_Pi a_o_wall_told a_o_wall_told_words, A_J dA a_o_wall_told_words 16 x_o_wall_told_words] (some (.int r0)) (fun _ : Unit => [O_OL a_o a_o_wall a_o_imageOfWall x_o_imageIsKept a_o_rules a_o_tape a_o_costs a_o_thought a_o_acts a_o_shelves, A_Q dA a_o_shelves 6 x_o_shelves, O_Sh a_o_shelves_ep1 x_o_shelves_ep1_holds x_o_shelves_ep1_body x_o_shelves_ep1_sort x_o_shelves_ep1_length a_o_shelves_ep1_elements, A_J dA a_o_shelves_ep1_elements 60 x_o_shelves_ep1_elements, O_Wa a_o_wall x_o_wall_lamps x_o_wall_picture x_o_wall_night x_o_wall_spent a_o_wall_had a_o_wall_told a_o_wall_last a_o_wall_often, O_Pi a_o_wall_told a_o_wall_told_words, A_J dA a_o_wall_told_words 16 o_x_o_wall_told_words]) := by
  refine ct_intro "OneLamp" rfl (by decide +kernel) (Nat.le_of_ble_eq_true rfl) [(0, .ref a_o), (1, .int p1), (2, .int p2), (3, .int p3)] rfl (fun _ C => ?_)
  unfold f_OL_bars at hf
  refine g_iload_n (pc' := 1) C 1 d_OL_bars_0 rfl rfl ?_
  replace hf := g_bi hf; obtain ⟨r11, hc12, hf⟩ := hf
  refine g_callS (pc' := 4) (st1 := [.int (b2i r11)]) (ws1 := [O_OL a_o a_o_wall a_o_imageOfWall x_o_imageIsKept a_o_rules a_o_tape a_o_costs a_o_thought a_o_acts a_o_shelves, A_Q dA a_o_shelves 6 x_o_shelves, O_Sh a_o_shelves_ep1 x_o_shelves_ep1_holds x_o_shelves_ep1_body x_o_shelves_ep1_sort x_o_shelves_ep1_length a_o_shelves_ep1_elements, A_J dA a_o_shelves_ep1_elements 60 x_o_shelves_ep1_elements, O_Wa a_o_wall x_o_wall_lamps x_o_wall_picture x_o_wall_night x_o_wall_spent a_o_wall_had a_o_wall_told a_o_wall_last a_o_wall_often, O_Pi a_o_wall_told a_o_wall_told_words, A_J dA a_o_wall_told_words 16 x_o_wall_told_words]) C (c_OL_isShelf (l := l) (D := D) (dA := dA)    hc12) yy_OL_isShelf mw_2_99 d_OL_bars_1 rfl [] rfl rfl (Nat.le_of_ble_eq_true rfl) ⟨Nat.le_of_ble_eq_true rfl, Nat.le_of_ble_eq_true rfl⟩ rfl rfl (Nat.zero_le _) (Nat.zero_le _) [] rfl (by decide +kernel) rfl (g_lay_sel _ _ _ _ [(0, false), (1, false), (2, false), (3, false), (4, false), (5, false), (6, false)] (by decide +kernel) rfl (by decide +kernel) rfl rfl) rfl ?_
  refine g_if_eqb (pc' := 7) (tgt := 18) C d_OL_bars_4 rfl rfl (fun h => ?_) (fun h => ?_)
  · replace hf := g_bf h hf
    refine g_iconst (pc' := 19) (v := (-1)) C d_OL_bars_18 rfl rfl ?_
    replace hf := g_o2 hf; obtain ⟨h1, hf⟩ := hf; subst h1
    replace hf := Option.some.inj hf; subst hf
    exact g_iret C d_OL_bars_19 () rfl
  · replace hf := g_bt h hf
    refine g_iload_n (pc' := 8) C 3 d_OL_bars_7 rfl rfl ?_
    refine g_iconst (pc' := 9) (v := 1) C d_OL_bars_8 rfl rfl ?_
    refine g_icmp_lt (pc' := 12) (tgt := 18) C d_OL_bars_9 rfl rfl (fun h => ?_) (fun h => ?_)
    · replace hf := g_ip h hf
      refine g_iconst (pc' := 19) (v := (-1)) C d_OL_bars_18 rfl rfl ?_
      replace hf := g_o2 hf; obtain ⟨h1, hf⟩ := hf; subst h1
      replace hf := Option.some.inj hf; subst hf
      exact g_iret C d_OL_bars_19 () rfl
    · replace hf := g_in h hf
      refine g_iload_n (pc' := 13) C 3 d_OL_bars_12 rfl rfl ?_
      refine g_bipush (pc' := 15) (v := 30) C d_OL_bars_13 rfl rfl ?_
      refine g_icmp_le (pc' := 18) (tgt := 20) C d_OL_bars_15 rfl rfl (fun h => ?_) (fun h => ?_)
      · replace hf := g_ip h hf
        refine g_aload_n (pc' := 21) C 0 d_OL_bars_20 rfl rfl ?_
        refine g_get (pc' := 24) C kf_OL 8 mw_2_52 d_OL_bars_21 rfl 0 rfl (by decide) rfl ?_
        refine g_iload_n (pc' := 25) C 1 d_OL_bars_24 rfl rfl ?_
        have hb := g_ck hf
        replace hf := g_in hb hf
        refine g_aald (pc' := 26) C d_OL_bars_25 rfl 1 rfl hb he_p1 ?_
        refine g_astore (pc' := 28) (lv' := [(4, .ref a_o_shelves_ep1), (0, .ref a_o), (1, .int p1), (2, .int p2), (3, .int p3)]) C d_OL_bars_26 rfl (by decide) rfl ?_
        refine g_aload (pc' := 30) C 0 d_OL_bars_28 rfl rfl ?_
        replace hf := g_bi hf; obtain ⟨r13, hc14, hf⟩ := hf
        refine g_callV (pc' := 33) (st1 := [.int (b2i r13)]) (ws1 := [O_OL a_o a_o_wall a_o_imageOfWall x_o_imageIsKept a_o_rules a_o_tape a_o_costs a_o_thought a_o_acts a_o_shelves, A_Q dA a_o_shelves 6 x_o_shelves, O_Sh a_o_shelves_ep1 x_o_shelves_ep1_holds x_o_shelves_ep1_body x_o_shelves_ep1_sort x_o_shelves_ep1_length a_o_shelves_ep1_elements, A_J dA a_o_shelves_ep1_elements 60 x_o_shelves_ep1_elements, O_Wa a_o_wall x_o_wall_lamps x_o_wall_picture x_o_wall_night x_o_wall_spent a_o_wall_had a_o_wall_told a_o_wall_last a_o_wall_often, O_Pi a_o_wall_told a_o_wall_told_words, A_J dA a_o_wall_told_words 16 x_o_wall_told_words]) C (c_Sh_isEmpty (l := l) (D := D) (dA := dA) (a_o := a_o_shelves_ep1) (a_o_elements := a_o_shelves_ep1_elements) (x_o_body := x_o_shelves_ep1_body) (x_o_sort := x_o_shelves_ep1_sort) (x_o_length := x_o_shelves_ep1_length)   hc14) yy_Sh_isEmpty kf_Sh rfl mw_2_102 d_OL_bars_30 rfl [] rfl rfl (Nat.le_of_ble_eq_true rfl) ⟨Nat.le_of_ble_eq_true rfl, Nat.le_of_ble_eq_true rfl⟩ rfl rfl (Nat.zero_le _) (Nat.zero_le _) 2 rfl [2] rfl (by decide +kernel) rfl (g_lay_sel _ _ _ _ [(0, false), (1, false), (0, true), (3, false), (4, false), (5, false), (6, false)] (by decide +kernel) rfl (by decide +kernel) rfl rfl) rfl ?_
        refine g_if_eqb (pc' := 36) (tgt := 38) C d_OL_bars_33 rfl rfl (fun h => ?_) (fun h => ?_)
        · replace hf := g_bf h hf
          refine g_aload (pc' := 40) C 0 d_OL_bars_38 rfl rfl ?_
          refine g_iconst (pc' := 41) (v := 1) C d_OL_bars_40 rfl rfl ?_
          replace hf := g_bi hf; obtain ⟨r15, hc16, hf⟩ := hf
          refine g_callV (pc' := 44) (st1 := [.int (b2i r15)]) (ws1 := [O_OL a_o a_o_wall a_o_imageOfWall x_o_imageIsKept a_o_rules a_o_tape a_o_costs a_o_thought a_o_acts a_o_shelves, A_Q dA a_o_shelves 6 x_o_shelves, O_Sh a_o_shelves_ep1 x_o_shelves_ep1_holds x_o_shelves_ep1_body x_o_shelves_ep1_sort x_o_shelves_ep1_length a_o_shelves_ep1_elements, A_J dA a_o_shelves_ep1_elements 60 x_o_shelves_ep1_elements, O_Wa a_o_wall x_o_wall_lamps x_o_wall_picture x_o_wall_night x_o_wall_spent a_o_wall_had a_o_wall_told a_o_wall_last a_o_wall_often, O_Pi a_o_wall_told a_o_wall_told_words, A_J dA a_o_wall_told_words 16 x_o_wall_told_words]) C (c_Sh_isRowOf (l := l) (D := D) (dA := dA) (a_o := a_o_shelves_ep1) (a_o_elements := a_o_shelves_ep1_elements) (x_o_body := x_o_shelves_ep1_body) (x_o_length := x_o_shelves_ep1_length)   hc16) yy_Sh_isRowOf kf_Sh rfl mw_2_106 d_OL_bars_41 rfl [] rfl rfl (Nat.le_of_ble_eq_true rfl) ⟨Nat.le_of_ble_eq_true rfl, Nat.le_of_ble_eq_true rfl⟩ rfl rfl (Nat.zero_le _) (Nat.zero_le _) 2 rfl [2] rfl (by decide +kernel) rfl (g_lay_sel _ _ _ _ [(0, false), (1, false), (0, true), (3, false), (4, false), (5, false), (6, false)] (by decide +kernel) rfl (by decide +kernel) rfl rfl) rfl ?_
          refine g_if_neb (pc' := 47) (tgt := 50) C d_OL_bars_44 rfl rfl (fun h => ?_) (fun h => ?_)
          · replace hf := g_bt h hf
            refine g_iconst (pc' := 51) (v := 0) C d_OL_bars_50 rfl rfl ?_
            refine g_istore (pc' := 53) (lv' := [(5, .int 0), (4, .ref a_o_shelves_ep1), (0, .ref a_o), (1, .int p1), (2, .int p2), (3, .int p3)]) C d_OL_bars_51 rfl (by decide) rfl ?_
            refine g_lv (lv' := [(0, .ref a_o), (2, .int p2), (3, .int p3), (4, .ref a_o_shelves_ep1), (5, .int (0 : Int32))]) [2, 4, 5, 1, 0] rfl ?_
            exact w_OL_bars_L53 (a_o := a_o) (a_o_wall := a_o_wall) (a_o_imageOfWall := a_o_imageOfWall) (a_o_rules := a_o_rules) (a_o_tape := a_o_tape) (a_o_costs := a_o_costs) (a_o_thought := a_o_thought) (a_o_acts := a_o_acts) (a_o_shelves := a_o_shelves) (a_o_shelves_ep1 := a_o_shelves_ep1) (a_o_shelves_ep1_elements := a_o_shelves_ep1_elements) (a_o_wall_had := a_o_wall_had) (a_o_wall_told := a_o_wall_told) (a_o_wall_last := a_o_wall_last) (a_o_wall_often := a_o_wall_often) (a_o_wall_told_words := a_o_wall_told_words) C he_p1  3000 p2 p3 (0 : Int32) x_o_shelves_ep1_holds x_o_shelves_ep1_length x_o_shelves_ep1_elements x_o_wall_lamps x_o_wall_told_words hf
          · replace hf := g_bf h hf
            refine g_bipush (pc' := 49) (v := (-12)) C d_OL_bars_47 rfl rfl ?_
            replace hf := g_o2 hf; obtain ⟨h1, hf⟩ := hf; subst h1
            replace hf := Option.some.inj hf; subst hf
            exact g_iret C d_OL_bars_49 () rfl
        · replace hf := g_bt h hf
          refine g_iconst (pc' := 37) (v := 0) C d_OL_bars_36 rfl rfl ?_
          replace hf := g_o2 hf; obtain ⟨h1, hf⟩ := hf; subst h1
          replace hf := Option.some.inj hf; subst hf
          exact g_iret C d_OL_bars_37 () rfl
      · replace hf := g_in h hf
        refine g_iconst (pc' := 19) (v := (-1)) C d_OL_bars_18 rfl rfl ?_
        replace hf := g_o2 hf; obtain ⟨h1, hf⟩ := hf; subst h1
        replace hf := Option.some.inj hf; subst hf
        exact g_iret C d_OL_bars_19 () rfl
def y_OL_feed : MethodName := ⟨"OneLamp", "feed", "(I)I"⟩
theorem yy_OL_feed : YV y_OL_feed prog_1_method_6_code 2 (some .int) 1 := ⟨mw_2_122, mw_1_1, mw_2_120, mw_2_121, by decide +kernel, by decide +kernel, by decide +kernel⟩
theorem d_OL_feed_0 : decode prog_1_method_6_code 0 = .ok (.iload_n 1, 1) := by decide +kernel
theorem d_OL_feed_1 : decode prog_1_method_6_code 1 = .ok (.ifCond .lt 10, 3) := by decide +kernel
theorem d_OL_feed_4 : decode prog_1_method_6_code 4 = .ok (.iload_n 1, 1) := by decide +kernel
theorem d_OL_feed_5 : decode prog_1_method_6_code 5 = .ok (.sipush 255, 3) := by decide +kernel
theorem d_OL_feed_8 : decode prog_1_method_6_code 8 = .ok (.if_icmp .le 5, 3) := by decide +kernel
theorem d_OL_feed_11 : decode prog_1_method_6_code 11 = .ok (.iconst (-1), 1) := by decide +kernel
theorem d_OL_feed_12 : decode prog_1_method_6_code 12 = .ok (.ireturn, 1) := by decide +kernel
theorem d_OL_feed_13 : decode prog_1_method_6_code 13 = .ok (.aload_n 0, 1) := by decide +kernel
theorem d_OL_feed_14 : decode prog_1_method_6_code 14 = .ok (.getfield 29, 3) := by decide +kernel
theorem d_OL_feed_17 : decode prog_1_method_6_code 17 = .ok (.iload_n 1, 1) := by decide +kernel
theorem d_OL_feed_18 : decode prog_1_method_6_code 18 = .ok (.invokevirtual 105, 3) := by decide +kernel
theorem d_OL_feed_21 : decode prog_1_method_6_code 21 = .ok (.ifCond .eq 13, 3) := by decide +kernel
theorem d_OL_feed_24 : decode prog_1_method_6_code 24 = .ok (.aload_n 0, 1) := by decide +kernel
theorem d_OL_feed_25 : decode prog_1_method_6_code 25 = .ok (.getfield 29, 3) := by decide +kernel
theorem d_OL_feed_28 : decode prog_1_method_6_code 28 = .ok (.getfield 107, 3) := by decide +kernel
theorem d_OL_feed_31 : decode prog_1_method_6_code 31 = .ok (.goto 5, 3) := by decide +kernel
theorem d_OL_feed_34 : decode prog_1_method_6_code 34 = .ok (.bipush (-3), 2) := by decide +kernel
theorem d_OL_feed_36 : decode prog_1_method_6_code 36 = .ok (.ireturn, 1) := by decide +kernel
def f_OL_feed  (p1 : Int32) (x_o_tape_length : Int32) (x_o_tape_letters : Nat → Int32) : Option (Int32 × Int32 × (Nat → Int32)) :=
  if p1 < 0 then
    (some ((-1 : Int32), x_o_tape_length, x_o_tape_letters))
  else
    (if p1 ≤ (255 : Int32) then
      ((f_Ta_add  p1 x_o_tape_length x_o_tape_letters).bind fun (r1, u2, u3) =>
      if r1 = true then
        (some (u2, u2, u3))
      else
        (some ((-3 : Int32), u2, u3)))
    else
      (some ((-1 : Int32), x_o_tape_length, x_o_tape_letters)))
set_option maxRecDepth 20000 in
theorem c_OL_feed {l : Launch} {D : va_G} {dA : Nat → ClassId} {a_o a_o_wall a_o_imageOfWall a_o_rules a_o_tape a_o_costs a_o_thought a_o_acts a_o_shelves a_o_tape_letters a_o_tape_code : Nat} {x_o_imageIsKept : Bool} {x_o_tape_codeLength : Int32} {x_o_tape_at : Int32} {p1 : Int32} {x_o_tape_length : Int32} {x_o_tape_letters : Nat → Int32} {r0 : Int32} {o_x_o_tape_length : Int32} {o_x_o_tape_letters : Nat → Int32}   (hf : f_OL_feed  p1 x_o_tape_length x_o_tape_letters = some (r0, o_x_o_tape_length, o_x_o_tape_letters)) : CT l y_OL_feed prog_1_method_6_code 2 (some .int) { frames := 1, cells := 0, slots := 0, locals := 21 } D dA [.ref a_o, .int p1] [O_OL a_o a_o_wall a_o_imageOfWall x_o_imageIsKept a_o_rules a_o_tape a_o_costs a_o_thought a_o_acts a_o_shelves, O_Ta a_o_tape a_o_tape_letters x_o_tape_length a_o_tape_code x_o_tape_codeLength x_o_tape_at, A_I dA a_o_tape_letters 120 x_o_tape_letters] (some (.int r0)) (fun _ : Unit => [O_OL a_o a_o_wall a_o_imageOfWall x_o_imageIsKept a_o_rules a_o_tape a_o_costs a_o_thought a_o_acts a_o_shelves, O_Ta a_o_tape a_o_tape_letters o_x_o_tape_length a_o_tape_code x_o_tape_codeLength x_o_tape_at, A_I dA a_o_tape_letters 120 o_x_o_tape_letters]) := by
  refine ct_intro "OneLamp" rfl (by decide +kernel) (Nat.le_of_ble_eq_true rfl) [(0, .ref a_o), (1, .int p1)] rfl (fun _ C => ?_)
  unfold f_OL_feed at hf
  refine g_iload_n (pc' := 1) C 1 d_OL_feed_0 rfl rfl ?_
  refine g_if_lt (pc' := 4) (tgt := 11) C d_OL_feed_1 rfl rfl (fun h => ?_) (fun h => ?_)
  · replace hf := g_ip h hf
    refine g_iconst (pc' := 12) (v := (-1)) C d_OL_feed_11 rfl rfl ?_
    replace hf := g_o2 hf; obtain ⟨h1, hf⟩ := hf; subst h1
    replace hf := g_o2 hf; obtain ⟨h1, hf⟩ := hf; subst h1
    replace hf := Option.some.inj hf; subst hf
    exact g_iret C d_OL_feed_12 () rfl
  · replace hf := g_in h hf
    refine g_iload_n (pc' := 5) C 1 d_OL_feed_4 rfl rfl ?_
    refine g_sipush (pc' := 8) (v := 255) C d_OL_feed_5 rfl rfl ?_
    refine g_icmp_le (pc' := 11) (tgt := 13) C d_OL_feed_8 rfl rfl (fun h => ?_) (fun h => ?_)
    · replace hf := g_ip h hf
      refine g_aload_n (pc' := 14) C 0 d_OL_feed_13 rfl rfl ?_
      refine g_get (pc' := 17) C kf_OL 4 mw_2_48 d_OL_feed_14 rfl 0 rfl (by decide) rfl ?_
      refine g_iload_n (pc' := 18) C 1 d_OL_feed_17 rfl rfl ?_
      replace hf := g_bi hf; obtain ⟨⟨r1, u2, u3⟩, hc4, hf⟩ := hf
      dsimp only at hf
      refine g_callV (pc' := 21) (st1 := [.int (b2i r1)]) (ws1 := [O_OL a_o a_o_wall a_o_imageOfWall x_o_imageIsKept a_o_rules a_o_tape a_o_costs a_o_thought a_o_acts a_o_shelves, O_Ta a_o_tape a_o_tape_letters u2 a_o_tape_code x_o_tape_codeLength x_o_tape_at, A_I dA a_o_tape_letters 120 u3]) C (c_Ta_add (l := l) (D := D) (dA := dA) (a_o := a_o_tape) (a_o_letters := a_o_tape_letters) (a_o_code := a_o_tape_code) (x_o_codeLength := x_o_tape_codeLength) (x_o_at := x_o_tape_at)   hc4) yy_Ta_add kf_Ta rfl mw_2_123 d_OL_feed_18 rfl [] rfl rfl (Nat.le_of_ble_eq_true rfl) ⟨Nat.le_of_ble_eq_true rfl, Nat.le_of_ble_eq_true rfl⟩ rfl rfl (Nat.zero_le _) (Nat.zero_le _) 1 rfl [1, 2] rfl (by decide +kernel) rfl (g_lay_sel _ _ _ _ [(0, false), (0, true), (1, true)] (by decide +kernel) rfl (by decide +kernel) rfl rfl) rfl ?_
      refine g_if_eqb (pc' := 24) (tgt := 34) C d_OL_feed_21 rfl rfl (fun h => ?_) (fun h => ?_)
      · replace hf := g_bf h hf
        refine g_bipush (pc' := 36) (v := (-3)) C d_OL_feed_34 rfl rfl ?_
        replace hf := g_o2 hf; obtain ⟨h1, hf⟩ := hf; subst h1
        replace hf := g_o2 hf; obtain ⟨h1, hf⟩ := hf; subst h1
        replace hf := Option.some.inj hf; subst hf
        exact g_iret C d_OL_feed_36 () rfl
      · replace hf := g_bt h hf
        refine g_aload_n (pc' := 25) C 0 d_OL_feed_24 rfl rfl ?_
        refine g_get (pc' := 28) C kf_OL 4 mw_2_48 d_OL_feed_25 rfl 0 rfl (by decide) rfl ?_
        refine g_get (pc' := 31) C kf_Ta 1 mw_1_159 d_OL_feed_28 rfl 1 rfl (by decide) rfl ?_
        refine g_goto (tgt := 36) C d_OL_feed_31 rfl ?_
        replace hf := g_o2 hf; obtain ⟨h1, hf⟩ := hf; subst h1
        replace hf := g_o2 hf; obtain ⟨h1, hf⟩ := hf; subst h1
        replace hf := Option.some.inj hf; subst hf
        exact g_iret C d_OL_feed_36 () rfl
    · replace hf := g_in h hf
      refine g_iconst (pc' := 12) (v := (-1)) C d_OL_feed_11 rfl rfl ?_
      replace hf := g_o2 hf; obtain ⟨h1, hf⟩ := hf; subst h1
      replace hf := g_o2 hf; obtain ⟨h1, hf⟩ := hf; subst h1
      replace hf := Option.some.inj hf; subst hf
      exact g_iret C d_OL_feed_12 () rfl
def y_OL_law : MethodName := ⟨"OneLamp", "law", "()I"⟩
theorem yy_OL_law : YV y_OL_law prog_1_method_7_code 2 (some .int) 0 := ⟨mw_2_130, mw_1_1, mw_2_128, mw_2_129, by decide +kernel, by decide +kernel, by decide +kernel⟩
theorem d_OL_law_0 : decode prog_1_method_7_code 0 = .ok (.aload_n 0, 1) := by decide +kernel
theorem d_OL_law_1 : decode prog_1_method_7_code 1 = .ok (.getfield 29, 3) := by decide +kernel
theorem d_OL_law_4 : decode prog_1_method_7_code 4 = .ok (.invokevirtual 110, 3) := by decide +kernel
theorem d_OL_law_7 : decode prog_1_method_7_code 7 = .ok (.istore_n 1, 1) := by decide +kernel
theorem d_OL_law_8 : decode prog_1_method_7_code 8 = .ok (.iload_n 1, 1) := by decide +kernel
theorem d_OL_law_9 : decode prog_1_method_7_code 9 = .ok (.iconst (-1), 1) := by decide +kernel
theorem d_OL_law_10 : decode prog_1_method_7_code 10 = .ok (.if_icmp .ne 24, 3) := by decide +kernel
theorem d_OL_law_13 : decode prog_1_method_7_code 13 = .ok (.aload_n 0, 1) := by decide +kernel
theorem d_OL_law_14 : decode prog_1_method_7_code 14 = .ok (.getfield 22, 3) := by decide +kernel
theorem d_OL_law_17 : decode prog_1_method_7_code 17 = .ok (.aload_n 0, 1) := by decide +kernel
theorem d_OL_law_18 : decode prog_1_method_7_code 18 = .ok (.getfield 29, 3) := by decide +kernel
theorem d_OL_law_21 : decode prog_1_method_7_code 21 = .ok (.getfield 114, 3) := by decide +kernel
theorem d_OL_law_24 : decode prog_1_method_7_code 24 = .ok (.aload_n 0, 1) := by decide +kernel
theorem d_OL_law_25 : decode prog_1_method_7_code 25 = .ok (.getfield 29, 3) := by decide +kernel
theorem d_OL_law_28 : decode prog_1_method_7_code 28 = .ok (.getfield 118, 3) := by decide +kernel
theorem d_OL_law_31 : decode prog_1_method_7_code 31 = .ok (.invokevirtual 121, 3) := by decide +kernel
theorem d_OL_law_34 : decode prog_1_method_7_code 34 = .ok (.aload_n 0, 1) := by decide +kernel
theorem d_OL_law_35 : decode prog_1_method_7_code 35 = .ok (.getfield 29, 3) := by decide +kernel
theorem d_OL_law_38 : decode prog_1_method_7_code 38 = .ok (.iconst 0, 1) := by decide +kernel
theorem d_OL_law_39 : decode prog_1_method_7_code 39 = .ok (.putfield 107, 3) := by decide +kernel
theorem d_OL_law_42 : decode prog_1_method_7_code 42 = .ok (.iload_n 1, 1) := by decide +kernel
theorem d_OL_law_43 : decode prog_1_method_7_code 43 = .ok (.iconst (-1), 1) := by decide +kernel
theorem d_OL_law_44 : decode prog_1_method_7_code 44 = .ok (.if_icmp .ne 7, 3) := by decide +kernel
theorem d_OL_law_47 : decode prog_1_method_7_code 47 = .ok (.iconst 1, 1) := by decide +kernel
theorem d_OL_law_48 : decode prog_1_method_7_code 48 = .ok (.goto 7, 3) := by decide +kernel
theorem d_OL_law_51 : decode prog_1_method_7_code 51 = .ok (.bipush (-100), 2) := by decide +kernel
theorem d_OL_law_53 : decode prog_1_method_7_code 53 = .ok (.iload_n 1, 1) := by decide +kernel
theorem d_OL_law_54 : decode prog_1_method_7_code 54 = .ok (.isub, 1) := by decide +kernel
theorem d_OL_law_55 : decode prog_1_method_7_code 55 = .ok (.ireturn, 1) := by decide +kernel
def f_OL_law_L34   (v1 : Int32) (x_o_tape_length : Int32) (x_o_tape_codeLength : Int32) (x_o_tape_at : Int32) (x_o_tape_code : Nat → Int32) (x_o_rules_law_length : Int32) (x_o_rules_law_code : Nat → Int32) (x_o_rules_asked_words : Nat → Int64) : Option (Int32 × Int32 × Int32 × Int32 × (Nat → Int32) × Int32 × (Nat → Int32) × (Nat → Int64)) :=
  if v1 = (-1 : Int32) then
    (some ((1 : Int32), (0 : Int32), x_o_tape_codeLength, x_o_tape_at, x_o_tape_code, x_o_rules_law_length, x_o_rules_law_code, x_o_rules_asked_words))
  else
    (some (((-100 : Int32) - v1), (0 : Int32), x_o_tape_codeLength, x_o_tape_at, x_o_tape_code, x_o_rules_law_length, x_o_rules_law_code, x_o_rules_asked_words))
set_option maxRecDepth 20000 in
theorem w_OL_law_L34 {p : Program} {l : Launch} {e : Env} {s : State} {m : MethodId} {args : Array Value} {below : List Frame} {meth : Method} {c : Code} {D : va_G} {dA : Nat → ClassId} {A : Nat → Prop} (C : GC p s m args meth c prog_1_method_7_code 2 "OneLamp" (some .int) D dA A) {a_o a_o_wall a_o_imageOfWall a_o_rules a_o_tape a_o_costs a_o_thought a_o_acts a_o_shelves a_o_tape_letters a_o_tape_code a_o_rules_law a_o_rules_asked a_o_rules_forbidden a_o_rules_law_code a_o_rules_law_stack a_o_rules_asked_words : Nat} {x_o_imageIsKept : Bool} {x_o_tape_letters : Nat → Int32} {x_o_rules_rest : Int32} {x_o_rules_shy : Int32} {x_o_rules_askedForLamps : Int32} {x_o_rules_law_top : Int32} {r0 : Int32} {o_x_o_tape_length : Int32} {o_x_o_tape_codeLength : Int32} {o_x_o_tape_at : Int32} {o_x_o_tape_code : Nat → Int32} {o_x_o_rules_law_length : Int32} {o_x_o_rules_law_code : Nat → Int32} {o_x_o_rules_asked_words : Nat → Int64}    (v1 : Int32) (x_o_tape_length : Int32) (x_o_tape_codeLength : Int32) (x_o_tape_at : Int32) (x_o_tape_code : Nat → Int32) (x_o_rules_law_length : Int32) (x_o_rules_law_code : Nat → Int32) (x_o_rules_asked_words : Nat → Int64) (hf : f_OL_law_L34   v1 x_o_tape_length x_o_tape_codeLength x_o_tape_at x_o_tape_code x_o_rules_law_length x_o_rules_law_code x_o_rules_asked_words = some (r0, o_x_o_tape_length, o_x_o_tape_codeLength, o_x_o_tape_at, o_x_o_tape_code, o_x_o_rules_law_length, o_x_o_rules_law_code, o_x_o_rules_asked_words)) : GG p l e { frames := 751, cells := 0, slots := 0, locals := 16170 } s m args below meth c 2 D A 0 0 (MQ below (cQ D A (some (.int r0)) (fun _ : Unit => [O_OL a_o a_o_wall a_o_imageOfWall x_o_imageIsKept a_o_rules a_o_tape a_o_costs a_o_thought a_o_acts a_o_shelves, O_Ta a_o_tape a_o_tape_letters o_x_o_tape_length a_o_tape_code o_x_o_tape_codeLength o_x_o_tape_at, A_I dA a_o_tape_letters 120 x_o_tape_letters, A_I dA a_o_tape_code 256 o_x_o_tape_code, O_Ru a_o_rules x_o_rules_rest x_o_rules_shy a_o_rules_law a_o_rules_asked a_o_rules_forbidden x_o_rules_askedForLamps, O_La a_o_rules_law a_o_rules_law_code o_x_o_rules_law_length a_o_rules_law_stack x_o_rules_law_top, A_I dA a_o_rules_law_code 256 o_x_o_rules_law_code, O_Pi a_o_rules_asked a_o_rules_asked_words, A_J dA a_o_rules_asked_words 16 o_x_o_rules_asked_words])) args s 0 0 A) 34 [(0, .ref a_o), (1, .int v1)] [] [O_OL a_o a_o_wall a_o_imageOfWall x_o_imageIsKept a_o_rules a_o_tape a_o_costs a_o_thought a_o_acts a_o_shelves, O_Ta a_o_tape a_o_tape_letters x_o_tape_length a_o_tape_code x_o_tape_codeLength x_o_tape_at, A_I dA a_o_tape_letters 120 x_o_tape_letters, A_I dA a_o_tape_code 256 x_o_tape_code, O_Ru a_o_rules x_o_rules_rest x_o_rules_shy a_o_rules_law a_o_rules_asked a_o_rules_forbidden x_o_rules_askedForLamps, O_La a_o_rules_law a_o_rules_law_code x_o_rules_law_length a_o_rules_law_stack x_o_rules_law_top, A_I dA a_o_rules_law_code 256 x_o_rules_law_code, O_Pi a_o_rules_asked a_o_rules_asked_words, A_J dA a_o_rules_asked_words 16 x_o_rules_asked_words] := by
  unfold f_OL_law_L34 at hf
  refine g_aload_n (pc' := 35) C 0 d_OL_law_34 rfl rfl ?_
  refine g_get (pc' := 38) C kf_OL 4 mw_2_48 d_OL_law_35 rfl 0 rfl (by decide) rfl ?_
  refine g_iconst (pc' := 39) (v := 0) C d_OL_law_38 rfl rfl ?_
  refine g_put (pc' := 42) (ws' := [O_OL a_o a_o_wall a_o_imageOfWall x_o_imageIsKept a_o_rules a_o_tape a_o_costs a_o_thought a_o_acts a_o_shelves, O_Ta a_o_tape a_o_tape_letters (0 : Int32) a_o_tape_code x_o_tape_codeLength x_o_tape_at, A_I dA a_o_tape_letters 120 x_o_tape_letters, A_I dA a_o_tape_code 256 x_o_tape_code, O_Ru a_o_rules x_o_rules_rest x_o_rules_shy a_o_rules_law a_o_rules_asked a_o_rules_forbidden x_o_rules_askedForLamps, O_La a_o_rules_law a_o_rules_law_code x_o_rules_law_length a_o_rules_law_stack x_o_rules_law_top, A_I dA a_o_rules_law_code 256 x_o_rules_law_code, O_Pi a_o_rules_asked a_o_rules_asked_words, A_J dA a_o_rules_asked_words 16 x_o_rules_asked_words]) C kf_Ta 1 mw_1_159 d_OL_law_39 rfl 1 rfl (by decide) rfl rfl rfl (Nat.le_of_ble_eq_true rfl) rfl ?_
  refine g_iload_n (pc' := 43) C 1 d_OL_law_42 rfl rfl ?_
  refine g_iconst (pc' := 44) (v := (-1)) C d_OL_law_43 rfl rfl ?_
  refine g_icmp_ne (pc' := 47) (tgt := 51) C d_OL_law_44 rfl rfl (fun h => ?_) (fun h => ?_)
  · replace hf := g_in h hf
    refine g_bipush (pc' := 53) (v := (-100)) C d_OL_law_51 rfl rfl ?_
    refine g_iload_n (pc' := 54) C 1 d_OL_law_53 rfl rfl ?_
    refine g_isub (pc' := 55) C d_OL_law_54 rfl ?_
    replace hf := g_o2 hf; obtain ⟨h1, hf⟩ := hf; subst h1
    replace hf := g_o2 hf; obtain ⟨h1, hf⟩ := hf; subst h1
    replace hf := g_o2 hf; obtain ⟨h1, hf⟩ := hf; subst h1
    replace hf := g_o2 hf; obtain ⟨h1, hf⟩ := hf; subst h1
    replace hf := g_o2 hf; obtain ⟨h1, hf⟩ := hf; subst h1
    replace hf := g_o2 hf; obtain ⟨h1, hf⟩ := hf; subst h1
    replace hf := g_o2 hf; obtain ⟨h1, hf⟩ := hf; subst h1
    replace hf := Option.some.inj hf; subst hf
    exact g_iret C d_OL_law_55 () rfl
  · replace hf := g_ip h hf
    refine g_iconst (pc' := 48) (v := 1) C d_OL_law_47 rfl rfl ?_
    refine g_goto (tgt := 55) C d_OL_law_48 rfl ?_
    replace hf := g_o2 hf; obtain ⟨h1, hf⟩ := hf; subst h1
    replace hf := g_o2 hf; obtain ⟨h1, hf⟩ := hf; subst h1
    replace hf := g_o2 hf; obtain ⟨h1, hf⟩ := hf; subst h1
    replace hf := g_o2 hf; obtain ⟨h1, hf⟩ := hf; subst h1
    replace hf := g_o2 hf; obtain ⟨h1, hf⟩ := hf; subst h1
    replace hf := g_o2 hf; obtain ⟨h1, hf⟩ := hf; subst h1
    replace hf := g_o2 hf; obtain ⟨h1, hf⟩ := hf; subst h1
    replace hf := Option.some.inj hf; subst hf
    exact g_iret C d_OL_law_55 () rfl
def f_OL_law  (x_o_tape_length : Int32) (x_o_tape_codeLength : Int32) (x_o_tape_at : Int32) (x_o_tape_letters : Nat → Int32) (x_o_tape_code : Nat → Int32) (x_o_rules_law_length : Int32) (x_o_rules_law_code : Nat → Int32) (x_o_rules_asked_words : Nat → Int64) : Option (Int32 × Int32 × Int32 × Int32 × (Nat → Int32) × Int32 × (Nat → Int32) × (Nat → Int64)) :=
  (f_Ta_read  x_o_tape_length x_o_tape_codeLength x_o_tape_at x_o_tape_letters x_o_tape_code).bind fun (r1, u2, u3, u4) =>
  if r1 = (-1 : Int32) then
    ((f_Ru_takeLaw  u2 u4 256 x_o_rules_law_length x_o_rules_law_code x_o_rules_asked_words).bind fun (u6, u7, u8) =>
    f_OL_law_L34  r1 x_o_tape_length u2 u3 u4 u6 u7 u8)
  else
    (f_OL_law_L34  r1 x_o_tape_length u2 u3 u4 x_o_rules_law_length x_o_rules_law_code x_o_rules_asked_words)
set_option maxRecDepth 20000 in
theorem c_OL_law {l : Launch} {D : va_G} {dA : Nat → ClassId} {a_o a_o_wall a_o_imageOfWall a_o_rules a_o_tape a_o_costs a_o_thought a_o_acts a_o_shelves a_o_tape_letters a_o_tape_code a_o_rules_law a_o_rules_asked a_o_rules_forbidden a_o_rules_law_code a_o_rules_law_stack a_o_rules_asked_words : Nat} {x_o_imageIsKept : Bool} {x_o_rules_rest : Int32} {x_o_rules_shy : Int32} {x_o_rules_askedForLamps : Int32} {x_o_rules_law_top : Int32} {x_o_tape_length : Int32} {x_o_tape_codeLength : Int32} {x_o_tape_at : Int32} {x_o_tape_letters : Nat → Int32} {x_o_tape_code : Nat → Int32} {x_o_rules_law_length : Int32} {x_o_rules_law_code : Nat → Int32} {x_o_rules_asked_words : Nat → Int64} {r0 : Int32} {o_x_o_tape_length : Int32} {o_x_o_tape_codeLength : Int32} {o_x_o_tape_at : Int32} {o_x_o_tape_code : Nat → Int32} {o_x_o_rules_law_length : Int32} {o_x_o_rules_law_code : Nat → Int32} {o_x_o_rules_asked_words : Nat → Int64}   (hf : f_OL_law  x_o_tape_length x_o_tape_codeLength x_o_tape_at x_o_tape_letters x_o_tape_code x_o_rules_law_length x_o_rules_law_code x_o_rules_asked_words = some (r0, o_x_o_tape_length, o_x_o_tape_codeLength, o_x_o_tape_at, o_x_o_tape_code, o_x_o_rules_law_length, o_x_o_rules_law_code, o_x_o_rules_asked_words)) : CT l y_OL_law prog_1_method_7_code 2 (some .int) { frames := 751, cells := 0, slots := 0, locals := 16170 } D dA [.ref a_o] [O_OL a_o a_o_wall a_o_imageOfWall x_o_imageIsKept a_o_rules a_o_tape a_o_costs a_o_thought a_o_acts a_o_shelves, O_Ta a_o_tape a_o_tape_letters x_o_tape_length a_o_tape_code x_o_tape_codeLength x_o_tape_at, A_I dA a_o_tape_letters 120 x_o_tape_letters, A_I dA a_o_tape_code 256 x_o_tape_code, O_Ru a_o_rules x_o_rules_rest x_o_rules_shy a_o_rules_law a_o_rules_asked a_o_rules_forbidden x_o_rules_askedForLamps, O_La a_o_rules_law a_o_rules_law_code x_o_rules_law_length a_o_rules_law_stack x_o_rules_law_top, A_I dA a_o_rules_law_code 256 x_o_rules_law_code, O_Pi a_o_rules_asked a_o_rules_asked_words, A_J dA a_o_rules_asked_words 16 x_o_rules_asked_words] (some (.int r0)) (fun _ : Unit => [O_OL a_o a_o_wall a_o_imageOfWall x_o_imageIsKept a_o_rules a_o_tape a_o_costs a_o_thought a_o_acts a_o_shelves, O_Ta a_o_tape a_o_tape_letters o_x_o_tape_length a_o_tape_code o_x_o_tape_codeLength o_x_o_tape_at, A_I dA a_o_tape_letters 120 x_o_tape_letters, A_I dA a_o_tape_code 256 o_x_o_tape_code, O_Ru a_o_rules x_o_rules_rest x_o_rules_shy a_o_rules_law a_o_rules_asked a_o_rules_forbidden x_o_rules_askedForLamps, O_La a_o_rules_law a_o_rules_law_code o_x_o_rules_law_length a_o_rules_law_stack x_o_rules_law_top, A_I dA a_o_rules_law_code 256 o_x_o_rules_law_code, O_Pi a_o_rules_asked a_o_rules_asked_words, A_J dA a_o_rules_asked_words 16 o_x_o_rules_asked_words]) := by
  refine ct_intro "OneLamp" rfl (by decide +kernel) (Nat.le_of_ble_eq_true rfl) [(0, .ref a_o)] rfl (fun _ C => ?_)
  unfold f_OL_law at hf
  refine g_aload_n (pc' := 1) C 0 d_OL_law_0 rfl rfl ?_
  refine g_get (pc' := 4) C kf_OL 4 mw_2_48 d_OL_law_1 rfl 0 rfl (by decide) rfl ?_
  replace hf := g_bi hf; obtain ⟨⟨r1, u2, u3, u4⟩, hc5, hf⟩ := hf
  dsimp only at hf
  refine g_callV (pc' := 7) (st1 := [.int r1]) (ws1 := [O_OL a_o a_o_wall a_o_imageOfWall x_o_imageIsKept a_o_rules a_o_tape a_o_costs a_o_thought a_o_acts a_o_shelves, O_Ta a_o_tape a_o_tape_letters x_o_tape_length a_o_tape_code u2 u3, A_I dA a_o_tape_letters 120 x_o_tape_letters, A_I dA a_o_tape_code 256 u4, O_Ru a_o_rules x_o_rules_rest x_o_rules_shy a_o_rules_law a_o_rules_asked a_o_rules_forbidden x_o_rules_askedForLamps, O_La a_o_rules_law a_o_rules_law_code x_o_rules_law_length a_o_rules_law_stack x_o_rules_law_top, A_I dA a_o_rules_law_code 256 x_o_rules_law_code, O_Pi a_o_rules_asked a_o_rules_asked_words, A_J dA a_o_rules_asked_words 16 x_o_rules_asked_words]) C (c_Ta_read (l := l) (D := D) (dA := dA) (a_o := a_o_tape) (a_o_letters := a_o_tape_letters) (a_o_code := a_o_tape_code)   hc5) yy_Ta_read kf_Ta rfl mw_2_131 d_OL_law_4 rfl [] rfl rfl (Nat.le_of_ble_eq_true rfl) ⟨Nat.le_of_ble_eq_true rfl, Nat.le_of_ble_eq_true rfl⟩ rfl rfl (Nat.zero_le _) (Nat.zero_le _) 1 rfl [1, 2, 3] rfl (by decide +kernel) rfl (g_lay_sel _ _ _ _ [(0, false), (0, true), (1, true), (2, true), (4, false), (5, false), (6, false), (7, false), (8, false)] (by decide +kernel) rfl (by decide +kernel) rfl rfl) rfl ?_
  refine g_istore_n (pc' := 8) (lv' := [(1, .int r1), (0, .ref a_o)]) C d_OL_law_7 rfl (by decide) rfl ?_
  refine g_iload_n (pc' := 9) C 0 d_OL_law_8 rfl rfl ?_
  refine g_iconst (pc' := 10) (v := (-1)) C d_OL_law_9 rfl rfl ?_
  refine g_icmp_ne (pc' := 13) (tgt := 34) C d_OL_law_10 rfl rfl (fun h => ?_) (fun h => ?_)
  · replace hf := g_in h hf
    refine g_lv (lv' := [(0, .ref a_o), (1, .int r1)]) [1, 0] rfl ?_
    exact w_OL_law_L34 (a_o := a_o) (a_o_wall := a_o_wall) (a_o_imageOfWall := a_o_imageOfWall) (a_o_rules := a_o_rules) (a_o_tape := a_o_tape) (a_o_costs := a_o_costs) (a_o_thought := a_o_thought) (a_o_acts := a_o_acts) (a_o_shelves := a_o_shelves) (a_o_tape_letters := a_o_tape_letters) (a_o_tape_code := a_o_tape_code) (a_o_rules_law := a_o_rules_law) (a_o_rules_asked := a_o_rules_asked) (a_o_rules_forbidden := a_o_rules_forbidden) (a_o_rules_law_code := a_o_rules_law_code) (a_o_rules_law_stack := a_o_rules_law_stack) (a_o_rules_asked_words := a_o_rules_asked_words) C   r1 x_o_tape_length u2 u3 u4 x_o_rules_law_length x_o_rules_law_code x_o_rules_asked_words hf
  · replace hf := g_ip h hf
    refine g_aload_n (pc' := 14) C 1 d_OL_law_13 rfl rfl ?_
    refine g_get (pc' := 17) C kf_OL 3 mw_2_47 d_OL_law_14 rfl 0 rfl (by decide) rfl ?_
    refine g_aload_n (pc' := 18) C 1 d_OL_law_17 rfl rfl ?_
    refine g_get (pc' := 21) C kf_OL 4 mw_2_48 d_OL_law_18 rfl 0 rfl (by decide) rfl ?_
    refine g_get (pc' := 24) C kf_Ta 2 mw_1_161 d_OL_law_21 rfl 1 rfl (by decide) rfl ?_
    refine g_aload_n (pc' := 25) C 1 d_OL_law_24 rfl rfl ?_
    refine g_get (pc' := 28) C kf_OL 4 mw_2_48 d_OL_law_25 rfl 0 rfl (by decide) rfl ?_
    refine g_get (pc' := 31) C kf_Ta 3 mw_1_163 d_OL_law_28 rfl 1 rfl (by decide) rfl ?_
    replace hf := g_bi hf; obtain ⟨⟨u6, u7, u8⟩, hc9, hf⟩ := hf
    dsimp only at hf
    refine g_callV (pc' := 34) (st1 := []) (ws1 := [O_OL a_o a_o_wall a_o_imageOfWall x_o_imageIsKept a_o_rules a_o_tape a_o_costs a_o_thought a_o_acts a_o_shelves, O_Ta a_o_tape a_o_tape_letters x_o_tape_length a_o_tape_code u2 u3, A_I dA a_o_tape_letters 120 x_o_tape_letters, A_I dA a_o_tape_code 256 u4, O_Ru a_o_rules x_o_rules_rest x_o_rules_shy a_o_rules_law a_o_rules_asked a_o_rules_forbidden x_o_rules_askedForLamps, O_La a_o_rules_law a_o_rules_law_code u6 a_o_rules_law_stack x_o_rules_law_top, A_I dA a_o_rules_law_code 256 u7, O_Pi a_o_rules_asked a_o_rules_asked_words, A_J dA a_o_rules_asked_words 16 u8]) C (c_Ru_takeLaw (l := l) (D := D) (dA := dA) (a_o := a_o_rules) (a_p1 := a_o_tape_code) (a_o_law := a_o_rules_law) (a_o_asked := a_o_rules_asked) (a_o_forbidden := a_o_rules_forbidden) (a_o_law_code := a_o_rules_law_code) (a_o_law_stack := a_o_rules_law_stack) (a_o_asked_words := a_o_rules_asked_words) (x_o_rest := x_o_rules_rest) (x_o_shy := x_o_rules_shy) (x_o_askedForLamps := x_o_rules_askedForLamps) (x_o_law_top := x_o_rules_law_top)   hc9) yy_Ru_takeLaw kf_Ru rfl mw_2_163 d_OL_law_31 rfl [] rfl rfl (Nat.le_of_ble_eq_true rfl) ⟨Nat.le_of_ble_eq_true rfl, Nat.le_of_ble_eq_true rfl⟩ rfl rfl (Nat.zero_le _) (Nat.zero_le _) 4 rfl [4, 3, 5, 6, 7, 8] rfl (by decide +kernel) rfl (g_lay_sel _ _ _ _ [(0, false), (1, false), (2, false), (1, true), (0, true), (2, true), (3, true), (4, true), (5, true)] (by decide +kernel) rfl (by decide +kernel) rfl rfl) rfl ?_
    refine g_lv (lv' := [(0, .ref a_o), (1, .int r1)]) [1, 0] rfl ?_
    exact w_OL_law_L34 (a_o := a_o) (a_o_wall := a_o_wall) (a_o_imageOfWall := a_o_imageOfWall) (a_o_rules := a_o_rules) (a_o_tape := a_o_tape) (a_o_costs := a_o_costs) (a_o_thought := a_o_thought) (a_o_acts := a_o_acts) (a_o_shelves := a_o_shelves) (a_o_tape_letters := a_o_tape_letters) (a_o_tape_code := a_o_tape_code) (a_o_rules_law := a_o_rules_law) (a_o_rules_asked := a_o_rules_asked) (a_o_rules_forbidden := a_o_rules_forbidden) (a_o_rules_law_code := a_o_rules_law_code) (a_o_rules_law_stack := a_o_rules_law_stack) (a_o_rules_asked_words := a_o_rules_asked_words) C   r1 x_o_tape_length u2 u3 u4 u6 u7 u8 hf
def y_OL_set : MethodName := ⟨"OneLamp", "set", "(II)I"⟩
theorem yy_OL_set : YV y_OL_set prog_1_method_8_code 4 (some .int) 2 := ⟨mw_2_178, mw_1_1, mw_2_176, mw_2_177, by decide +kernel, by decide +kernel, by decide +kernel⟩
theorem d_OL_set_0 : decode prog_1_method_8_code 0 = .ok (.iload_n 1, 1) := by decide +kernel
theorem d_OL_set_1 : decode prog_1_method_8_code 1 = .ok (.ifCond .lt 26, 3) := by decide +kernel
theorem d_OL_set_4 : decode prog_1_method_8_code 4 = .ok (.iload_n 1, 1) := by decide +kernel
theorem d_OL_set_5 : decode prog_1_method_8_code 5 = .ok (.iconst 1, 1) := by decide +kernel
theorem d_OL_set_6 : decode prog_1_method_8_code 6 = .ok (.if_icmp .gt 21, 3) := by decide +kernel
theorem d_OL_set_9 : decode prog_1_method_8_code 9 = .ok (.iload_n 2, 1) := by decide +kernel
theorem d_OL_set_10 : decode prog_1_method_8_code 10 = .ok (.ifCond .lt 17, 3) := by decide +kernel
theorem d_OL_set_13 : decode prog_1_method_8_code 13 = .ok (.iload_n 2, 1) := by decide +kernel
theorem d_OL_set_14 : decode prog_1_method_8_code 14 = .ok (.iload_n 1, 1) := by decide +kernel
theorem d_OL_set_15 : decode prog_1_method_8_code 15 = .ok (.ifCond .ne 8, 3) := by decide +kernel
theorem d_OL_set_18 : decode prog_1_method_8_code 18 = .ok (.bipush 9, 2) := by decide +kernel
theorem d_OL_set_20 : decode prog_1_method_8_code 20 = .ok (.goto 4, 3) := by decide +kernel
theorem d_OL_set_23 : decode prog_1_method_8_code 23 = .ok (.iconst 1, 1) := by decide +kernel
theorem d_OL_set_24 : decode prog_1_method_8_code 24 = .ok (.if_icmp .le 5, 3) := by decide +kernel
theorem d_OL_set_27 : decode prog_1_method_8_code 27 = .ok (.iconst (-1), 1) := by decide +kernel
theorem d_OL_set_28 : decode prog_1_method_8_code 28 = .ok (.ireturn, 1) := by decide +kernel
theorem d_OL_set_29 : decode prog_1_method_8_code 29 = .ok (.iload_n 1, 1) := by decide +kernel
theorem d_OL_set_30 : decode prog_1_method_8_code 30 = .ok (.ifCond .ne 13, 3) := by decide +kernel
theorem d_OL_set_33 : decode prog_1_method_8_code 33 = .ok (.aload_n 0, 1) := by decide +kernel
theorem d_OL_set_34 : decode prog_1_method_8_code 34 = .ok (.getfield 22, 3) := by decide +kernel
theorem d_OL_set_37 : decode prog_1_method_8_code 37 = .ok (.getfield 125, 3) := by decide +kernel
theorem d_OL_set_40 : decode prog_1_method_8_code 40 = .ok (.goto 10, 3) := by decide +kernel
theorem d_OL_set_43 : decode prog_1_method_8_code 43 = .ok (.aload_n 0, 1) := by decide +kernel
theorem d_OL_set_44 : decode prog_1_method_8_code 44 = .ok (.getfield 22, 3) := by decide +kernel
theorem d_OL_set_47 : decode prog_1_method_8_code 47 = .ok (.getfield 128, 3) := by decide +kernel
theorem d_OL_set_50 : decode prog_1_method_8_code 50 = .ok (.istore_n 3, 1) := by decide +kernel
theorem d_OL_set_51 : decode prog_1_method_8_code 51 = .ok (.iload_n 1, 1) := by decide +kernel
theorem d_OL_set_52 : decode prog_1_method_8_code 52 = .ok (.ifCond .ne 14, 3) := by decide +kernel
theorem d_OL_set_55 : decode prog_1_method_8_code 55 = .ok (.aload_n 0, 1) := by decide +kernel
theorem d_OL_set_56 : decode prog_1_method_8_code 56 = .ok (.getfield 22, 3) := by decide +kernel
theorem d_OL_set_59 : decode prog_1_method_8_code 59 = .ok (.iload_n 2, 1) := by decide +kernel
theorem d_OL_set_60 : decode prog_1_method_8_code 60 = .ok (.putfield 125, 3) := by decide +kernel
theorem d_OL_set_63 : decode prog_1_method_8_code 63 = .ok (.goto 11, 3) := by decide +kernel
theorem d_OL_set_66 : decode prog_1_method_8_code 66 = .ok (.aload_n 0, 1) := by decide +kernel
theorem d_OL_set_67 : decode prog_1_method_8_code 67 = .ok (.getfield 22, 3) := by decide +kernel
theorem d_OL_set_70 : decode prog_1_method_8_code 70 = .ok (.iload_n 2, 1) := by decide +kernel
theorem d_OL_set_71 : decode prog_1_method_8_code 71 = .ok (.putfield 128, 3) := by decide +kernel
theorem d_OL_set_74 : decode prog_1_method_8_code 74 = .ok (.iload_n 3, 1) := by decide +kernel
theorem d_OL_set_75 : decode prog_1_method_8_code 75 = .ok (.ireturn, 1) := by decide +kernel
def f_OL_set_L50   (v1 : Int32) (v2 : Int32) (s0 : Int32) (x_o_rules_rest : Int32) (x_o_rules_shy : Int32) : Option (Int32 × Int32 × Int32) :=
  if v1 = 0 then
    (some (s0, v2, x_o_rules_shy))
  else
    (some (s0, x_o_rules_rest, v2))
set_option maxRecDepth 20000 in
theorem w_OL_set_L50 {p : Program} {l : Launch} {e : Env} {s : State} {m : MethodId} {args : Array Value} {below : List Frame} {meth : Method} {c : Code} {D : va_G} {dA : Nat → ClassId} {A : Nat → Prop} (C : GC p s m args meth c prog_1_method_8_code 4 "OneLamp" (some .int) D dA A) {a_o a_o_wall a_o_imageOfWall a_o_rules a_o_tape a_o_costs a_o_thought a_o_acts a_o_shelves a_o_rules_law a_o_rules_asked a_o_rules_forbidden : Nat} {x_o_imageIsKept : Bool} {x_o_rules_askedForLamps : Int32} {r0 : Int32} {o_x_o_rules_rest : Int32} {o_x_o_rules_shy : Int32}    (v1 : Int32) (v2 : Int32) (s0 : Int32) (x_o_rules_rest : Int32) (x_o_rules_shy : Int32) (hf : f_OL_set_L50   v1 v2 s0 x_o_rules_rest x_o_rules_shy = some (r0, o_x_o_rules_rest, o_x_o_rules_shy)) : GG p l e { frames := 0, cells := 0, slots := 0, locals := 0 } s m args below meth c 4 D A 0 0 (MQ below (cQ D A (some (.int r0)) (fun _ : Unit => [O_OL a_o a_o_wall a_o_imageOfWall x_o_imageIsKept a_o_rules a_o_tape a_o_costs a_o_thought a_o_acts a_o_shelves, O_Ru a_o_rules o_x_o_rules_rest o_x_o_rules_shy a_o_rules_law a_o_rules_asked a_o_rules_forbidden x_o_rules_askedForLamps])) args s 0 0 A) 50 [(0, .ref a_o), (1, .int v1), (2, .int v2)] [.int s0] [O_OL a_o a_o_wall a_o_imageOfWall x_o_imageIsKept a_o_rules a_o_tape a_o_costs a_o_thought a_o_acts a_o_shelves, O_Ru a_o_rules x_o_rules_rest x_o_rules_shy a_o_rules_law a_o_rules_asked a_o_rules_forbidden x_o_rules_askedForLamps] := by
  unfold f_OL_set_L50 at hf
  refine g_istore_n (pc' := 51) (lv' := [(3, .int s0), (0, .ref a_o), (1, .int v1), (2, .int v2)]) C d_OL_set_50 rfl (by decide) rfl ?_
  refine g_iload_n (pc' := 52) C 2 d_OL_set_51 rfl rfl ?_
  refine g_if_ne (pc' := 55) (tgt := 66) C d_OL_set_52 rfl rfl (fun h => ?_) (fun h => ?_)
  · replace hf := g_in h hf
    refine g_aload_n (pc' := 67) C 1 d_OL_set_66 rfl rfl ?_
    refine g_get (pc' := 70) C kf_OL 3 mw_2_47 d_OL_set_67 rfl 0 rfl (by decide) rfl ?_
    refine g_iload_n (pc' := 71) C 3 d_OL_set_70 rfl rfl ?_
    refine g_put (pc' := 74) (ws' := [O_OL a_o a_o_wall a_o_imageOfWall x_o_imageIsKept a_o_rules a_o_tape a_o_costs a_o_thought a_o_acts a_o_shelves, O_Ru a_o_rules x_o_rules_rest v2 a_o_rules_law a_o_rules_asked a_o_rules_forbidden x_o_rules_askedForLamps]) C kf_Ru 1 mw_1_133 d_OL_set_71 rfl 1 rfl (by decide) rfl rfl rfl (Nat.le_of_ble_eq_true rfl) rfl ?_
    refine g_iload_n (pc' := 75) C 0 d_OL_set_74 rfl rfl ?_
    replace hf := g_o2 hf; obtain ⟨h1, hf⟩ := hf; subst h1
    replace hf := g_o2 hf; obtain ⟨h1, hf⟩ := hf; subst h1
    replace hf := Option.some.inj hf; subst hf
    exact g_iret C d_OL_set_75 () rfl
  · replace hf := g_ip h hf
    refine g_aload_n (pc' := 56) C 1 d_OL_set_55 rfl rfl ?_
    refine g_get (pc' := 59) C kf_OL 3 mw_2_47 d_OL_set_56 rfl 0 rfl (by decide) rfl ?_
    refine g_iload_n (pc' := 60) C 3 d_OL_set_59 rfl rfl ?_
    refine g_put (pc' := 63) (ws' := [O_OL a_o a_o_wall a_o_imageOfWall x_o_imageIsKept a_o_rules a_o_tape a_o_costs a_o_thought a_o_acts a_o_shelves, O_Ru a_o_rules v2 x_o_rules_shy a_o_rules_law a_o_rules_asked a_o_rules_forbidden x_o_rules_askedForLamps]) C kf_Ru 0 mw_1_131 d_OL_set_60 rfl 1 rfl (by decide) rfl rfl rfl (Nat.le_of_ble_eq_true rfl) rfl ?_
    refine g_goto (tgt := 74) C d_OL_set_63 rfl ?_
    refine g_iload_n (pc' := 75) C 0 d_OL_set_74 rfl rfl ?_
    replace hf := g_o2 hf; obtain ⟨h1, hf⟩ := hf; subst h1
    replace hf := g_o2 hf; obtain ⟨h1, hf⟩ := hf; subst h1
    replace hf := Option.some.inj hf; subst hf
    exact g_iret C d_OL_set_75 () rfl
def f_OL_set_L24   (v1 : Int32) (v2 : Int32) (s0 : Int32) (s1 : Int32) (x_o_rules_rest : Int32) (x_o_rules_shy : Int32) : Option (Int32 × Int32 × Int32) :=
  if s1 ≤ s0 then
    (if v1 = 0 then
      (f_OL_set_L50  v1 v2 x_o_rules_rest x_o_rules_rest x_o_rules_shy)
    else
      (f_OL_set_L50  v1 v2 x_o_rules_shy x_o_rules_rest x_o_rules_shy))
  else
    (some ((-1 : Int32), x_o_rules_rest, x_o_rules_shy))
set_option maxRecDepth 20000 in
theorem w_OL_set_L24 {p : Program} {l : Launch} {e : Env} {s : State} {m : MethodId} {args : Array Value} {below : List Frame} {meth : Method} {c : Code} {D : va_G} {dA : Nat → ClassId} {A : Nat → Prop} (C : GC p s m args meth c prog_1_method_8_code 4 "OneLamp" (some .int) D dA A) {a_o a_o_wall a_o_imageOfWall a_o_rules a_o_tape a_o_costs a_o_thought a_o_acts a_o_shelves a_o_rules_law a_o_rules_asked a_o_rules_forbidden : Nat} {x_o_imageIsKept : Bool} {x_o_rules_askedForLamps : Int32} {r0 : Int32} {o_x_o_rules_rest : Int32} {o_x_o_rules_shy : Int32}    (v1 : Int32) (v2 : Int32) (s0 : Int32) (s1 : Int32) (x_o_rules_rest : Int32) (x_o_rules_shy : Int32) (hf : f_OL_set_L24   v1 v2 s0 s1 x_o_rules_rest x_o_rules_shy = some (r0, o_x_o_rules_rest, o_x_o_rules_shy)) : GG p l e { frames := 0, cells := 0, slots := 0, locals := 0 } s m args below meth c 4 D A 0 0 (MQ below (cQ D A (some (.int r0)) (fun _ : Unit => [O_OL a_o a_o_wall a_o_imageOfWall x_o_imageIsKept a_o_rules a_o_tape a_o_costs a_o_thought a_o_acts a_o_shelves, O_Ru a_o_rules o_x_o_rules_rest o_x_o_rules_shy a_o_rules_law a_o_rules_asked a_o_rules_forbidden x_o_rules_askedForLamps])) args s 0 0 A) 24 [(0, .ref a_o), (1, .int v1), (2, .int v2)] [.int s0, .int s1] [O_OL a_o a_o_wall a_o_imageOfWall x_o_imageIsKept a_o_rules a_o_tape a_o_costs a_o_thought a_o_acts a_o_shelves, O_Ru a_o_rules x_o_rules_rest x_o_rules_shy a_o_rules_law a_o_rules_asked a_o_rules_forbidden x_o_rules_askedForLamps] := by
  unfold f_OL_set_L24 at hf
  refine g_icmp_le (pc' := 27) (tgt := 29) C d_OL_set_24 rfl rfl (fun h => ?_) (fun h => ?_)
  · replace hf := g_ip h hf
    refine g_iload_n (pc' := 30) C 1 d_OL_set_29 rfl rfl ?_
    refine g_if_ne (pc' := 33) (tgt := 43) C d_OL_set_30 rfl rfl (fun h => ?_) (fun h => ?_)
    · replace hf := g_in h hf
      refine g_aload_n (pc' := 44) C 0 d_OL_set_43 rfl rfl ?_
      refine g_get (pc' := 47) C kf_OL 3 mw_2_47 d_OL_set_44 rfl 0 rfl (by decide) rfl ?_
      refine g_get (pc' := 50) C kf_Ru 1 mw_1_133 d_OL_set_47 rfl 1 rfl (by decide) rfl ?_
      exact w_OL_set_L50 (a_o := a_o) (a_o_wall := a_o_wall) (a_o_imageOfWall := a_o_imageOfWall) (a_o_rules := a_o_rules) (a_o_tape := a_o_tape) (a_o_costs := a_o_costs) (a_o_thought := a_o_thought) (a_o_acts := a_o_acts) (a_o_shelves := a_o_shelves) (a_o_rules_law := a_o_rules_law) (a_o_rules_asked := a_o_rules_asked) (a_o_rules_forbidden := a_o_rules_forbidden) C   v1 v2 x_o_rules_shy x_o_rules_rest x_o_rules_shy hf
    · replace hf := g_ip h hf
      refine g_aload_n (pc' := 34) C 0 d_OL_set_33 rfl rfl ?_
      refine g_get (pc' := 37) C kf_OL 3 mw_2_47 d_OL_set_34 rfl 0 rfl (by decide) rfl ?_
      refine g_get (pc' := 40) C kf_Ru 0 mw_1_131 d_OL_set_37 rfl 1 rfl (by decide) rfl ?_
      refine g_goto (tgt := 50) C d_OL_set_40 rfl ?_
      exact w_OL_set_L50 (a_o := a_o) (a_o_wall := a_o_wall) (a_o_imageOfWall := a_o_imageOfWall) (a_o_rules := a_o_rules) (a_o_tape := a_o_tape) (a_o_costs := a_o_costs) (a_o_thought := a_o_thought) (a_o_acts := a_o_acts) (a_o_shelves := a_o_shelves) (a_o_rules_law := a_o_rules_law) (a_o_rules_asked := a_o_rules_asked) (a_o_rules_forbidden := a_o_rules_forbidden) C   v1 v2 x_o_rules_rest x_o_rules_rest x_o_rules_shy hf
  · replace hf := g_in h hf
    refine g_iconst (pc' := 28) (v := (-1)) C d_OL_set_27 rfl rfl ?_
    replace hf := g_o2 hf; obtain ⟨h1, hf⟩ := hf; subst h1
    replace hf := g_o2 hf; obtain ⟨h1, hf⟩ := hf; subst h1
    replace hf := Option.some.inj hf; subst hf
    exact g_iret C d_OL_set_28 () rfl
def f_OL_set  (p1 : Int32) (p2 : Int32) (x_o_rules_rest : Int32) (x_o_rules_shy : Int32) : Option (Int32 × Int32 × Int32) :=
  if p1 < 0 then
    (some ((-1 : Int32), x_o_rules_rest, x_o_rules_shy))
  else
    (if (1 : Int32) < p1 then
      (some ((-1 : Int32), x_o_rules_rest, x_o_rules_shy))
    else
      (if p2 < 0 then
        (some ((-1 : Int32), x_o_rules_rest, x_o_rules_shy))
      else
        (if p1 = 0 then
          (f_OL_set_L24  p1 p2 (9 : Int32) p2 x_o_rules_rest x_o_rules_shy)
        else
          (f_OL_set_L24  p1 p2 (1 : Int32) p2 x_o_rules_rest x_o_rules_shy))))
set_option maxRecDepth 20000 in
theorem c_OL_set {l : Launch} {D : va_G} {dA : Nat → ClassId} {a_o a_o_wall a_o_imageOfWall a_o_rules a_o_tape a_o_costs a_o_thought a_o_acts a_o_shelves a_o_rules_law a_o_rules_asked a_o_rules_forbidden : Nat} {x_o_imageIsKept : Bool} {x_o_rules_askedForLamps : Int32} {p1 : Int32} {p2 : Int32} {x_o_rules_rest : Int32} {x_o_rules_shy : Int32} {r0 : Int32} {o_x_o_rules_rest : Int32} {o_x_o_rules_shy : Int32}   (hf : f_OL_set  p1 p2 x_o_rules_rest x_o_rules_shy = some (r0, o_x_o_rules_rest, o_x_o_rules_shy)) : CT l y_OL_set prog_1_method_8_code 4 (some .int) { frames := 0, cells := 0, slots := 0, locals := 0 } D dA [.ref a_o, .int p1, .int p2] [O_OL a_o a_o_wall a_o_imageOfWall x_o_imageIsKept a_o_rules a_o_tape a_o_costs a_o_thought a_o_acts a_o_shelves, O_Ru a_o_rules x_o_rules_rest x_o_rules_shy a_o_rules_law a_o_rules_asked a_o_rules_forbidden x_o_rules_askedForLamps] (some (.int r0)) (fun _ : Unit => [O_OL a_o a_o_wall a_o_imageOfWall x_o_imageIsKept a_o_rules a_o_tape a_o_costs a_o_thought a_o_acts a_o_shelves, O_Ru a_o_rules o_x_o_rules_rest o_x_o_rules_shy a_o_rules_law a_o_rules_asked a_o_rules_forbidden x_o_rules_askedForLamps]) := by
  refine ct_intro "OneLamp" rfl (by decide +kernel) (Nat.le_of_ble_eq_true rfl) [(0, .ref a_o), (1, .int p1), (2, .int p2)] rfl (fun _ C => ?_)
  unfold f_OL_set at hf
  refine g_iload_n (pc' := 1) C 1 d_OL_set_0 rfl rfl ?_
  refine g_if_lt (pc' := 4) (tgt := 27) C d_OL_set_1 rfl rfl (fun h => ?_) (fun h => ?_)
  · replace hf := g_ip h hf
    refine g_iconst (pc' := 28) (v := (-1)) C d_OL_set_27 rfl rfl ?_
    replace hf := g_o2 hf; obtain ⟨h1, hf⟩ := hf; subst h1
    replace hf := g_o2 hf; obtain ⟨h1, hf⟩ := hf; subst h1
    replace hf := Option.some.inj hf; subst hf
    exact g_iret C d_OL_set_28 () rfl
  · replace hf := g_in h hf
    refine g_iload_n (pc' := 5) C 1 d_OL_set_4 rfl rfl ?_
    refine g_iconst (pc' := 6) (v := 1) C d_OL_set_5 rfl rfl ?_
    refine g_icmp_gt (pc' := 9) (tgt := 27) C d_OL_set_6 rfl rfl (fun h => ?_) (fun h => ?_)
    · replace hf := g_ip h hf
      refine g_iconst (pc' := 28) (v := (-1)) C d_OL_set_27 rfl rfl ?_
      replace hf := g_o2 hf; obtain ⟨h1, hf⟩ := hf; subst h1
      replace hf := g_o2 hf; obtain ⟨h1, hf⟩ := hf; subst h1
      replace hf := Option.some.inj hf; subst hf
      exact g_iret C d_OL_set_28 () rfl
    · replace hf := g_in h hf
      refine g_iload_n (pc' := 10) C 2 d_OL_set_9 rfl rfl ?_
      refine g_if_lt (pc' := 13) (tgt := 27) C d_OL_set_10 rfl rfl (fun h => ?_) (fun h => ?_)
      · replace hf := g_ip h hf
        refine g_iconst (pc' := 28) (v := (-1)) C d_OL_set_27 rfl rfl ?_
        replace hf := g_o2 hf; obtain ⟨h1, hf⟩ := hf; subst h1
        replace hf := g_o2 hf; obtain ⟨h1, hf⟩ := hf; subst h1
        replace hf := Option.some.inj hf; subst hf
        exact g_iret C d_OL_set_28 () rfl
      · replace hf := g_in h hf
        refine g_iload_n (pc' := 14) C 2 d_OL_set_13 rfl rfl ?_
        refine g_iload_n (pc' := 15) C 1 d_OL_set_14 rfl rfl ?_
        refine g_if_ne (pc' := 18) (tgt := 23) C d_OL_set_15 rfl rfl (fun h => ?_) (fun h => ?_)
        · replace hf := g_in h hf
          refine g_iconst (pc' := 24) (v := 1) C d_OL_set_23 rfl rfl ?_
          exact w_OL_set_L24 (a_o := a_o) (a_o_wall := a_o_wall) (a_o_imageOfWall := a_o_imageOfWall) (a_o_rules := a_o_rules) (a_o_tape := a_o_tape) (a_o_costs := a_o_costs) (a_o_thought := a_o_thought) (a_o_acts := a_o_acts) (a_o_shelves := a_o_shelves) (a_o_rules_law := a_o_rules_law) (a_o_rules_asked := a_o_rules_asked) (a_o_rules_forbidden := a_o_rules_forbidden) C   p1 p2 (1 : Int32) p2 x_o_rules_rest x_o_rules_shy hf
        · replace hf := g_ip h hf
          refine g_bipush (pc' := 20) (v := 9) C d_OL_set_18 rfl rfl ?_
          refine g_goto (tgt := 24) C d_OL_set_20 rfl ?_
          exact w_OL_set_L24 (a_o := a_o) (a_o_wall := a_o_wall) (a_o_imageOfWall := a_o_imageOfWall) (a_o_rules := a_o_rules) (a_o_tape := a_o_tape) (a_o_costs := a_o_costs) (a_o_thought := a_o_thought) (a_o_acts := a_o_acts) (a_o_shelves := a_o_shelves) (a_o_rules_law := a_o_rules_law) (a_o_rules_asked := a_o_rules_asked) (a_o_rules_forbidden := a_o_rules_forbidden) C   p1 p2 (9 : Int32) p2 x_o_rules_rest x_o_rules_shy hf
def y_OL_cost : MethodName := ⟨"OneLamp", "cost", "(II)I"⟩
theorem yy_OL_cost : YV y_OL_cost prog_1_method_9_code 4 (some .int) 2 := ⟨mw_2_182, mw_1_1, mw_2_180, mw_2_181, by decide +kernel, by decide +kernel, by decide +kernel⟩
theorem d_OL_cost_0 : decode prog_1_method_9_code 0 = .ok (.iload_n 1, 1) := by decide +kernel
theorem d_OL_cost_1 : decode prog_1_method_9_code 1 = .ok (.ifCond .lt 19, 3) := by decide +kernel
theorem d_OL_cost_4 : decode prog_1_method_9_code 4 = .ok (.iload_n 1, 1) := by decide +kernel
theorem d_OL_cost_5 : decode prog_1_method_9_code 5 = .ok (.bipush 10, 2) := by decide +kernel
theorem d_OL_cost_7 : decode prog_1_method_9_code 7 = .ok (.if_icmp .ge 13, 3) := by decide +kernel
theorem d_OL_cost_10 : decode prog_1_method_9_code 10 = .ok (.iload_n 2, 1) := by decide +kernel
theorem d_OL_cost_11 : decode prog_1_method_9_code 11 = .ok (.ifCond .lt 9, 3) := by decide +kernel
theorem d_OL_cost_14 : decode prog_1_method_9_code 14 = .ok (.iload_n 2, 1) := by decide +kernel
theorem d_OL_cost_15 : decode prog_1_method_9_code 15 = .ok (.bipush 9, 2) := by decide +kernel
theorem d_OL_cost_17 : decode prog_1_method_9_code 17 = .ok (.if_icmp .le 5, 3) := by decide +kernel
theorem d_OL_cost_20 : decode prog_1_method_9_code 20 = .ok (.iconst (-1), 1) := by decide +kernel
theorem d_OL_cost_21 : decode prog_1_method_9_code 21 = .ok (.ireturn, 1) := by decide +kernel
theorem d_OL_cost_22 : decode prog_1_method_9_code 22 = .ok (.aload_n 0, 1) := by decide +kernel
theorem d_OL_cost_23 : decode prog_1_method_9_code 23 = .ok (.getfield 36, 3) := by decide +kernel
theorem d_OL_cost_26 : decode prog_1_method_9_code 26 = .ok (.iload_n 1, 1) := by decide +kernel
theorem d_OL_cost_27 : decode prog_1_method_9_code 27 = .ok (.invokevirtual 131, 3) := by decide +kernel
theorem d_OL_cost_30 : decode prog_1_method_9_code 30 = .ok (.istore_n 3, 1) := by decide +kernel
theorem d_OL_cost_31 : decode prog_1_method_9_code 31 = .ok (.aload_n 0, 1) := by decide +kernel
theorem d_OL_cost_32 : decode prog_1_method_9_code 32 = .ok (.getfield 36, 3) := by decide +kernel
theorem d_OL_cost_35 : decode prog_1_method_9_code 35 = .ok (.iload_n 1, 1) := by decide +kernel
theorem d_OL_cost_36 : decode prog_1_method_9_code 36 = .ok (.iload_n 2, 1) := by decide +kernel
theorem d_OL_cost_37 : decode prog_1_method_9_code 37 = .ok (.invokevirtual 135, 3) := by decide +kernel
theorem d_OL_cost_40 : decode prog_1_method_9_code 40 = .ok (.iload_n 3, 1) := by decide +kernel
theorem d_OL_cost_41 : decode prog_1_method_9_code 41 = .ok (.ireturn, 1) := by decide +kernel
def f_OL_cost  (p1 : Int32) (p2 : Int32) (x_o_costs_done : Int32) (x_o_costs_undone : Int32) (x_o_costs_prices : Nat → Int32) (x_o_costs_lamps : Nat → Int32) (x_o_costs_before : Nat → Int32) (x_o_costs_after : Nat → Int32) : Option (Int32 × Int32 × Int32 × (Nat → Int32) × (Nat → Int32) × (Nat → Int32) × (Nat → Int32)) :=
  if p1 < 0 then
    (some ((-1 : Int32), x_o_costs_done, x_o_costs_undone, x_o_costs_prices, x_o_costs_lamps, x_o_costs_before, x_o_costs_after))
  else
    (if (10 : Int32) ≤ p1 then
      (some ((-1 : Int32), x_o_costs_done, x_o_costs_undone, x_o_costs_prices, x_o_costs_lamps, x_o_costs_before, x_o_costs_after))
    else
      (if p2 < 0 then
        (some ((-1 : Int32), x_o_costs_done, x_o_costs_undone, x_o_costs_prices, x_o_costs_lamps, x_o_costs_before, x_o_costs_after))
      else
        (if p2 ≤ (9 : Int32) then
          ((f_Co_of  p1 x_o_costs_prices).bind fun r1 =>
          (f_Co_tell  p1 p2 x_o_costs_done x_o_costs_undone x_o_costs_prices x_o_costs_lamps x_o_costs_before x_o_costs_after).bind fun (u3, u4, u5, u6, u7, u8) =>
          some (r1, u3, u4, u5, u6, u7, u8))
        else
          (some ((-1 : Int32), x_o_costs_done, x_o_costs_undone, x_o_costs_prices, x_o_costs_lamps, x_o_costs_before, x_o_costs_after)))))
set_option maxRecDepth 20000 in
theorem c_OL_cost {l : Launch} {D : va_G} {dA : Nat → ClassId} {a_o a_o_wall a_o_imageOfWall a_o_rules a_o_tape a_o_costs a_o_thought a_o_acts a_o_shelves a_o_costs_prices a_o_costs_lamps a_o_costs_before a_o_costs_after a_o_costs_sorted : Nat} {x_o_imageIsKept : Bool} {p1 : Int32} {p2 : Int32} {x_o_costs_done : Int32} {x_o_costs_undone : Int32} {x_o_costs_prices : Nat → Int32} {x_o_costs_lamps : Nat → Int32} {x_o_costs_before : Nat → Int32} {x_o_costs_after : Nat → Int32} {r0 : Int32} {o_x_o_costs_done : Int32} {o_x_o_costs_undone : Int32} {o_x_o_costs_prices : Nat → Int32} {o_x_o_costs_lamps : Nat → Int32} {o_x_o_costs_before : Nat → Int32} {o_x_o_costs_after : Nat → Int32}   (hf : f_OL_cost  p1 p2 x_o_costs_done x_o_costs_undone x_o_costs_prices x_o_costs_lamps x_o_costs_before x_o_costs_after = some (r0, o_x_o_costs_done, o_x_o_costs_undone, o_x_o_costs_prices, o_x_o_costs_lamps, o_x_o_costs_before, o_x_o_costs_after)) : CT l y_OL_cost prog_1_method_9_code 4 (some .int) { frames := 3, cells := 0, slots := 0, locals := 83 } D dA [.ref a_o, .int p1, .int p2] [O_OL a_o a_o_wall a_o_imageOfWall x_o_imageIsKept a_o_rules a_o_tape a_o_costs a_o_thought a_o_acts a_o_shelves, O_Co a_o_costs a_o_costs_prices a_o_costs_lamps a_o_costs_before a_o_costs_after a_o_costs_sorted x_o_costs_done x_o_costs_undone, A_I dA a_o_costs_prices 10 x_o_costs_prices, A_I dA a_o_costs_lamps 40 x_o_costs_lamps, A_I dA a_o_costs_before 40 x_o_costs_before, A_I dA a_o_costs_after 40 x_o_costs_after] (some (.int r0)) (fun _ : Unit => [O_OL a_o a_o_wall a_o_imageOfWall x_o_imageIsKept a_o_rules a_o_tape a_o_costs a_o_thought a_o_acts a_o_shelves, O_Co a_o_costs a_o_costs_prices a_o_costs_lamps a_o_costs_before a_o_costs_after a_o_costs_sorted o_x_o_costs_done o_x_o_costs_undone, A_I dA a_o_costs_prices 10 o_x_o_costs_prices, A_I dA a_o_costs_lamps 40 o_x_o_costs_lamps, A_I dA a_o_costs_before 40 o_x_o_costs_before, A_I dA a_o_costs_after 40 o_x_o_costs_after]) := by
  refine ct_intro "OneLamp" rfl (by decide +kernel) (Nat.le_of_ble_eq_true rfl) [(0, .ref a_o), (1, .int p1), (2, .int p2)] rfl (fun _ C => ?_)
  unfold f_OL_cost at hf
  refine g_iload_n (pc' := 1) C 1 d_OL_cost_0 rfl rfl ?_
  refine g_if_lt (pc' := 4) (tgt := 20) C d_OL_cost_1 rfl rfl (fun h => ?_) (fun h => ?_)
  · replace hf := g_ip h hf
    refine g_iconst (pc' := 21) (v := (-1)) C d_OL_cost_20 rfl rfl ?_
    replace hf := g_o2 hf; obtain ⟨h1, hf⟩ := hf; subst h1
    replace hf := g_o2 hf; obtain ⟨h1, hf⟩ := hf; subst h1
    replace hf := g_o2 hf; obtain ⟨h1, hf⟩ := hf; subst h1
    replace hf := g_o2 hf; obtain ⟨h1, hf⟩ := hf; subst h1
    replace hf := g_o2 hf; obtain ⟨h1, hf⟩ := hf; subst h1
    replace hf := g_o2 hf; obtain ⟨h1, hf⟩ := hf; subst h1
    replace hf := Option.some.inj hf; subst hf
    exact g_iret C d_OL_cost_21 () rfl
  · replace hf := g_in h hf
    refine g_iload_n (pc' := 5) C 1 d_OL_cost_4 rfl rfl ?_
    refine g_bipush (pc' := 7) (v := 10) C d_OL_cost_5 rfl rfl ?_
    refine g_icmp_ge (pc' := 10) (tgt := 20) C d_OL_cost_7 rfl rfl (fun h => ?_) (fun h => ?_)
    · replace hf := g_ip h hf
      refine g_iconst (pc' := 21) (v := (-1)) C d_OL_cost_20 rfl rfl ?_
      replace hf := g_o2 hf; obtain ⟨h1, hf⟩ := hf; subst h1
      replace hf := g_o2 hf; obtain ⟨h1, hf⟩ := hf; subst h1
      replace hf := g_o2 hf; obtain ⟨h1, hf⟩ := hf; subst h1
      replace hf := g_o2 hf; obtain ⟨h1, hf⟩ := hf; subst h1
      replace hf := g_o2 hf; obtain ⟨h1, hf⟩ := hf; subst h1
      replace hf := g_o2 hf; obtain ⟨h1, hf⟩ := hf; subst h1
      replace hf := Option.some.inj hf; subst hf
      exact g_iret C d_OL_cost_21 () rfl
    · replace hf := g_in h hf
      refine g_iload_n (pc' := 11) C 2 d_OL_cost_10 rfl rfl ?_
      refine g_if_lt (pc' := 14) (tgt := 20) C d_OL_cost_11 rfl rfl (fun h => ?_) (fun h => ?_)
      · replace hf := g_ip h hf
        refine g_iconst (pc' := 21) (v := (-1)) C d_OL_cost_20 rfl rfl ?_
        replace hf := g_o2 hf; obtain ⟨h1, hf⟩ := hf; subst h1
        replace hf := g_o2 hf; obtain ⟨h1, hf⟩ := hf; subst h1
        replace hf := g_o2 hf; obtain ⟨h1, hf⟩ := hf; subst h1
        replace hf := g_o2 hf; obtain ⟨h1, hf⟩ := hf; subst h1
        replace hf := g_o2 hf; obtain ⟨h1, hf⟩ := hf; subst h1
        replace hf := g_o2 hf; obtain ⟨h1, hf⟩ := hf; subst h1
        replace hf := Option.some.inj hf; subst hf
        exact g_iret C d_OL_cost_21 () rfl
      · replace hf := g_in h hf
        refine g_iload_n (pc' := 15) C 2 d_OL_cost_14 rfl rfl ?_
        refine g_bipush (pc' := 17) (v := 9) C d_OL_cost_15 rfl rfl ?_
        refine g_icmp_le (pc' := 20) (tgt := 22) C d_OL_cost_17 rfl rfl (fun h => ?_) (fun h => ?_)
        · replace hf := g_ip h hf
          refine g_aload_n (pc' := 23) C 0 d_OL_cost_22 rfl rfl ?_
          refine g_get (pc' := 26) C kf_OL 5 mw_2_49 d_OL_cost_23 rfl 0 rfl (by decide) rfl ?_
          refine g_iload_n (pc' := 27) C 1 d_OL_cost_26 rfl rfl ?_
          replace hf := g_bi hf; obtain ⟨r1, hc2, hf⟩ := hf
          refine g_callV (pc' := 30) (st1 := [.int r1]) (ws1 := [O_OL a_o a_o_wall a_o_imageOfWall x_o_imageIsKept a_o_rules a_o_tape a_o_costs a_o_thought a_o_acts a_o_shelves, O_Co a_o_costs a_o_costs_prices a_o_costs_lamps a_o_costs_before a_o_costs_after a_o_costs_sorted x_o_costs_done x_o_costs_undone, A_I dA a_o_costs_prices 10 x_o_costs_prices, A_I dA a_o_costs_lamps 40 x_o_costs_lamps, A_I dA a_o_costs_before 40 x_o_costs_before, A_I dA a_o_costs_after 40 x_o_costs_after]) C (c_Co_of (l := l) (D := D) (dA := dA) (a_o := a_o_costs) (a_o_prices := a_o_costs_prices) (a_o_lamps := a_o_costs_lamps) (a_o_before := a_o_costs_before) (a_o_after := a_o_costs_after) (a_o_sorted := a_o_costs_sorted) (x_o_done := x_o_costs_done) (x_o_undone := x_o_costs_undone)   hc2) yy_Co_of kf_Co rfl mw_2_183 d_OL_cost_27 rfl [] rfl rfl (Nat.le_of_ble_eq_true rfl) ⟨Nat.le_of_ble_eq_true rfl, Nat.le_of_ble_eq_true rfl⟩ rfl rfl (Nat.zero_le _) (Nat.zero_le _) 1 rfl [1, 2] rfl (by decide +kernel) rfl (g_lay_sel _ _ _ _ [(0, false), (0, true), (1, true), (3, false), (4, false), (5, false)] (by decide +kernel) rfl (by decide +kernel) rfl rfl) rfl ?_
          refine g_istore_n (pc' := 31) (lv' := [(3, .int r1), (0, .ref a_o), (1, .int p1), (2, .int p2)]) C d_OL_cost_30 rfl (by decide) rfl ?_
          refine g_aload_n (pc' := 32) C 1 d_OL_cost_31 rfl rfl ?_
          refine g_get (pc' := 35) C kf_OL 5 mw_2_49 d_OL_cost_32 rfl 0 rfl (by decide) rfl ?_
          refine g_iload_n (pc' := 36) C 2 d_OL_cost_35 rfl rfl ?_
          refine g_iload_n (pc' := 37) C 3 d_OL_cost_36 rfl rfl ?_
          replace hf := g_bi hf; obtain ⟨⟨u3, u4, u5, u6, u7, u8⟩, hc9, hf⟩ := hf
          dsimp only at hf
          refine g_callV (pc' := 40) (st1 := []) (ws1 := [O_OL a_o a_o_wall a_o_imageOfWall x_o_imageIsKept a_o_rules a_o_tape a_o_costs a_o_thought a_o_acts a_o_shelves, O_Co a_o_costs a_o_costs_prices a_o_costs_lamps a_o_costs_before a_o_costs_after a_o_costs_sorted u3 u4, A_I dA a_o_costs_prices 10 u5, A_I dA a_o_costs_lamps 40 u6, A_I dA a_o_costs_before 40 u7, A_I dA a_o_costs_after 40 u8]) C (c_Co_tell (l := l) (D := D) (dA := dA) (a_o := a_o_costs) (a_o_prices := a_o_costs_prices) (a_o_lamps := a_o_costs_lamps) (a_o_before := a_o_costs_before) (a_o_after := a_o_costs_after) (a_o_sorted := a_o_costs_sorted)   hc9) yy_Co_tell kf_Co rfl mw_2_187 d_OL_cost_37 rfl [] rfl rfl (Nat.le_of_ble_eq_true rfl) ⟨Nat.le_of_ble_eq_true rfl, Nat.le_of_ble_eq_true rfl⟩ rfl rfl (Nat.zero_le _) (Nat.zero_le _) 1 rfl [1, 2, 3, 4, 5] rfl (by decide +kernel) rfl (g_lay_sel _ _ _ _ [(0, false), (0, true), (1, true), (2, true), (3, true), (4, true)] (by decide +kernel) rfl (by decide +kernel) rfl rfl) rfl ?_
          refine g_iload_n (pc' := 41) C 0 d_OL_cost_40 rfl rfl ?_
          replace hf := g_o2 hf; obtain ⟨h1, hf⟩ := hf; subst h1
          replace hf := g_o2 hf; obtain ⟨h1, hf⟩ := hf; subst h1
          replace hf := g_o2 hf; obtain ⟨h1, hf⟩ := hf; subst h1
          replace hf := g_o2 hf; obtain ⟨h1, hf⟩ := hf; subst h1
          replace hf := g_o2 hf; obtain ⟨h1, hf⟩ := hf; subst h1
          replace hf := g_o2 hf; obtain ⟨h1, hf⟩ := hf; subst h1
          replace hf := Option.some.inj hf; subst hf
          exact g_iret C d_OL_cost_41 () rfl
        · replace hf := g_in h hf
          refine g_iconst (pc' := 21) (v := (-1)) C d_OL_cost_20 rfl rfl ?_
          replace hf := g_o2 hf; obtain ⟨h1, hf⟩ := hf; subst h1
          replace hf := g_o2 hf; obtain ⟨h1, hf⟩ := hf; subst h1
          replace hf := g_o2 hf; obtain ⟨h1, hf⟩ := hf; subst h1
          replace hf := g_o2 hf; obtain ⟨h1, hf⟩ := hf; subst h1
          replace hf := g_o2 hf; obtain ⟨h1, hf⟩ := hf; subst h1
          replace hf := g_o2 hf; obtain ⟨h1, hf⟩ := hf; subst h1
          replace hf := Option.some.inj hf; subst hf
          exact g_iret C d_OL_cost_21 () rfl
def y_OL_now : MethodName := ⟨"OneLamp", "now", "(I)I"⟩
theorem yy_OL_now : YV y_OL_now prog_1_method_10_code 2 (some .int) 1 := ⟨mw_2_204, mw_1_1, mw_2_202, mw_2_203, by decide +kernel, by decide +kernel, by decide +kernel⟩
theorem d_OL_now_0 : decode prog_1_method_10_code 0 = .ok (.iload_n 1, 1) := by decide +kernel
theorem d_OL_now_1 : decode prog_1_method_10_code 1 = .ok (.tableswitch 121 0 7 #[47, 55, 63, 71, 82, 90, 105, 113], 47) := by decide +kernel
theorem d_OL_now_48 : decode prog_1_method_10_code 48 = .ok (.aload_n 0, 1) := by decide +kernel
theorem d_OL_now_49 : decode prog_1_method_10_code 49 = .ok (.getfield 10, 3) := by decide +kernel
theorem d_OL_now_52 : decode prog_1_method_10_code 52 = .ok (.getfield 61, 3) := by decide +kernel
theorem d_OL_now_55 : decode prog_1_method_10_code 55 = .ok (.ireturn, 1) := by decide +kernel
theorem d_OL_now_56 : decode prog_1_method_10_code 56 = .ok (.aload_n 0, 1) := by decide +kernel
theorem d_OL_now_57 : decode prog_1_method_10_code 57 = .ok (.getfield 10, 3) := by decide +kernel
theorem d_OL_now_60 : decode prog_1_method_10_code 60 = .ok (.getfield 139, 3) := by decide +kernel
theorem d_OL_now_63 : decode prog_1_method_10_code 63 = .ok (.ireturn, 1) := by decide +kernel
theorem d_OL_now_64 : decode prog_1_method_10_code 64 = .ok (.aload_n 0, 1) := by decide +kernel
theorem d_OL_now_65 : decode prog_1_method_10_code 65 = .ok (.getfield 10, 3) := by decide +kernel
theorem d_OL_now_68 : decode prog_1_method_10_code 68 = .ok (.getfield 142, 3) := by decide +kernel
theorem d_OL_now_71 : decode prog_1_method_10_code 71 = .ok (.ireturn, 1) := by decide +kernel
theorem d_OL_now_72 : decode prog_1_method_10_code 72 = .ok (.aload_n 0, 1) := by decide +kernel
theorem d_OL_now_73 : decode prog_1_method_10_code 73 = .ok (.getfield 10, 3) := by decide +kernel
theorem d_OL_now_76 : decode prog_1_method_10_code 76 = .ok (.getfield 145, 3) := by decide +kernel
theorem d_OL_now_79 : decode prog_1_method_10_code 79 = .ok (.invokevirtual 148, 3) := by decide +kernel
theorem d_OL_now_82 : decode prog_1_method_10_code 82 = .ok (.ireturn, 1) := by decide +kernel
theorem d_OL_now_83 : decode prog_1_method_10_code 83 = .ok (.aload_n 0, 1) := by decide +kernel
theorem d_OL_now_84 : decode prog_1_method_10_code 84 = .ok (.getfield 10, 3) := by decide +kernel
theorem d_OL_now_87 : decode prog_1_method_10_code 87 = .ok (.getfield 151, 3) := by decide +kernel
theorem d_OL_now_90 : decode prog_1_method_10_code 90 = .ok (.ireturn, 1) := by decide +kernel
theorem d_OL_now_91 : decode prog_1_method_10_code 91 = .ok (.aload_n 0, 1) := by decide +kernel
theorem d_OL_now_92 : decode prog_1_method_10_code 92 = .ok (.getfield 36, 3) := by decide +kernel
theorem d_OL_now_95 : decode prog_1_method_10_code 95 = .ok (.aload_n 0, 1) := by decide +kernel
theorem d_OL_now_96 : decode prog_1_method_10_code 96 = .ok (.getfield 10, 3) := by decide +kernel
theorem d_OL_now_99 : decode prog_1_method_10_code 99 = .ok (.getfield 61, 3) := by decide +kernel
theorem d_OL_now_102 : decode prog_1_method_10_code 102 = .ok (.invokevirtual 154, 3) := by decide +kernel
theorem d_OL_now_105 : decode prog_1_method_10_code 105 = .ok (.ireturn, 1) := by decide +kernel
theorem d_OL_now_106 : decode prog_1_method_10_code 106 = .ok (.aload_n 0, 1) := by decide +kernel
theorem d_OL_now_107 : decode prog_1_method_10_code 107 = .ok (.getfield 22, 3) := by decide +kernel
theorem d_OL_now_110 : decode prog_1_method_10_code 110 = .ok (.getfield 125, 3) := by decide +kernel
theorem d_OL_now_113 : decode prog_1_method_10_code 113 = .ok (.ireturn, 1) := by decide +kernel
theorem d_OL_now_114 : decode prog_1_method_10_code 114 = .ok (.aload_n 0, 1) := by decide +kernel
theorem d_OL_now_115 : decode prog_1_method_10_code 115 = .ok (.getfield 22, 3) := by decide +kernel
theorem d_OL_now_118 : decode prog_1_method_10_code 118 = .ok (.getfield 128, 3) := by decide +kernel
theorem d_OL_now_121 : decode prog_1_method_10_code 121 = .ok (.ireturn, 1) := by decide +kernel
theorem d_OL_now_122 : decode prog_1_method_10_code 122 = .ok (.iconst (-1), 1) := by decide +kernel
theorem d_OL_now_123 : decode prog_1_method_10_code 123 = .ok (.ireturn, 1) := by decide +kernel
def f_OL_now  (p1 : Int32) (x_o_rules_rest : Int32) (x_o_rules_shy : Int32) (x_o_wall_lamps : Int32) (x_o_wall_picture : Int32) (x_o_wall_night : Int32) (x_o_wall_spent : Int32) (x_o_costs_sorted : Nat → Int32) (x_o_costs_prices : Nat → Int32) (x_o_wall_had_words : Nat → Int64) : Option (Int32 × (Nat → Int32)) :=
  if p1 = 0 then
    (some (x_o_wall_lamps, x_o_costs_sorted))
  else
  (if p1 = 1 then
    (some (x_o_wall_picture, x_o_costs_sorted))
  else
  (if p1 = 2 then
    (some (x_o_wall_night, x_o_costs_sorted))
  else
  (if p1 = 3 then
    ((f_Pi_size  x_o_wall_had_words).bind fun r1 =>
    some (r1, x_o_costs_sorted))
  else
  (if p1 = 4 then
    (some (x_o_wall_spent, x_o_costs_sorted))
  else
  (if p1 = 5 then
    ((f_Co_leastFor  x_o_wall_lamps x_o_costs_sorted x_o_costs_prices).bind fun (r3, u4) =>
    some (r3, u4))
  else
  (if p1 = 6 then
    (some (x_o_rules_rest, x_o_costs_sorted))
  else
  (if p1 = 7 then
    (some (x_o_rules_shy, x_o_costs_sorted))
  else
  (some ((-1 : Int32), x_o_costs_sorted)))))))))
set_option maxRecDepth 20000 in
theorem c_OL_now {l : Launch} {D : va_G} {dA : Nat → ClassId} {a_o a_o_wall a_o_imageOfWall a_o_rules a_o_tape a_o_costs a_o_thought a_o_acts a_o_shelves a_o_rules_law a_o_rules_asked a_o_rules_forbidden a_o_wall_had a_o_wall_told a_o_wall_last a_o_wall_often a_o_costs_prices a_o_costs_lamps a_o_costs_before a_o_costs_after a_o_costs_sorted a_o_wall_had_words : Nat} {x_o_imageIsKept : Bool} {x_o_rules_askedForLamps : Int32} {x_o_costs_done : Int32} {x_o_costs_undone : Int32} {p1 : Int32} {x_o_rules_rest : Int32} {x_o_rules_shy : Int32} {x_o_wall_lamps : Int32} {x_o_wall_picture : Int32} {x_o_wall_night : Int32} {x_o_wall_spent : Int32} {x_o_costs_sorted : Nat → Int32} {x_o_costs_prices : Nat → Int32} {x_o_wall_had_words : Nat → Int64} {r0 : Int32} {o_x_o_costs_sorted : Nat → Int32}   (hf : f_OL_now  p1 x_o_rules_rest x_o_rules_shy x_o_wall_lamps x_o_wall_picture x_o_wall_night x_o_wall_spent x_o_costs_sorted x_o_costs_prices x_o_wall_had_words = some (r0, o_x_o_costs_sorted)) : CT l y_OL_now prog_1_method_10_code 2 (some .int) { frames := 2, cells := 0, slots := 0, locals := 47 } D dA [.ref a_o, .int p1] [O_OL a_o a_o_wall a_o_imageOfWall x_o_imageIsKept a_o_rules a_o_tape a_o_costs a_o_thought a_o_acts a_o_shelves, O_Ru a_o_rules x_o_rules_rest x_o_rules_shy a_o_rules_law a_o_rules_asked a_o_rules_forbidden x_o_rules_askedForLamps, O_Wa a_o_wall x_o_wall_lamps x_o_wall_picture x_o_wall_night x_o_wall_spent a_o_wall_had a_o_wall_told a_o_wall_last a_o_wall_often, O_Co a_o_costs a_o_costs_prices a_o_costs_lamps a_o_costs_before a_o_costs_after a_o_costs_sorted x_o_costs_done x_o_costs_undone, A_I dA a_o_costs_sorted 10 x_o_costs_sorted, A_I dA a_o_costs_prices 10 x_o_costs_prices, O_Pi a_o_wall_had a_o_wall_had_words, A_J dA a_o_wall_had_words 16 x_o_wall_had_words] (some (.int r0)) (fun _ : Unit => [O_OL a_o a_o_wall a_o_imageOfWall x_o_imageIsKept a_o_rules a_o_tape a_o_costs a_o_thought a_o_acts a_o_shelves, O_Ru a_o_rules x_o_rules_rest x_o_rules_shy a_o_rules_law a_o_rules_asked a_o_rules_forbidden x_o_rules_askedForLamps, O_Wa a_o_wall x_o_wall_lamps x_o_wall_picture x_o_wall_night x_o_wall_spent a_o_wall_had a_o_wall_told a_o_wall_last a_o_wall_often, O_Co a_o_costs a_o_costs_prices a_o_costs_lamps a_o_costs_before a_o_costs_after a_o_costs_sorted x_o_costs_done x_o_costs_undone, A_I dA a_o_costs_sorted 10 o_x_o_costs_sorted, A_I dA a_o_costs_prices 10 x_o_costs_prices, O_Pi a_o_wall_had a_o_wall_had_words, A_J dA a_o_wall_had_words 16 x_o_wall_had_words]) := by
  refine ct_intro "OneLamp" rfl (by decide +kernel) (Nat.le_of_ble_eq_true rfl) [(0, .ref a_o), (1, .int p1)] rfl (fun _ C => ?_)
  unfold f_OL_now at hf
  refine g_iload_n (pc' := 1) C 1 d_OL_now_0 rfl rfl ?_
  by_cases q0 : p1 = 0
  · replace hf := g_ip q0 hf
    have e : (p1 : Int32).toInt = 0 := by rw [q0]; rfl
    refine g_tableIn (off := 47) (tgt := 48) C d_OL_now_1 (by rw [e]; decide) (by rw [e]; decide) (by rw [e]; rfl) rfl ?_
    refine g_aload_n (pc' := 49) C 0 d_OL_now_48 rfl rfl ?_
    refine g_get (pc' := 52) C kf_OL 0 mw_2_44 d_OL_now_49 rfl 0 rfl (by decide) rfl ?_
    refine g_get (pc' := 55) C kf_Wa 0 mw_1_64 d_OL_now_52 rfl 2 rfl (by decide) rfl ?_
    replace hf := g_o2 hf; obtain ⟨h1, hf⟩ := hf; subst h1
    replace hf := Option.some.inj hf; subst hf
    exact g_iret C d_OL_now_55 () rfl
  replace hf := g_in q0 hf
  by_cases q1 : p1 = 1
  · replace hf := g_ip q1 hf
    have e : (p1 : Int32).toInt = 1 := by rw [q1]; rfl
    refine g_tableIn (off := 55) (tgt := 56) C d_OL_now_1 (by rw [e]; decide) (by rw [e]; decide) (by rw [e]; rfl) rfl ?_
    refine g_aload_n (pc' := 57) C 0 d_OL_now_56 rfl rfl ?_
    refine g_get (pc' := 60) C kf_OL 0 mw_2_44 d_OL_now_57 rfl 0 rfl (by decide) rfl ?_
    refine g_get (pc' := 63) C kf_Wa 1 mw_1_70 d_OL_now_60 rfl 2 rfl (by decide) rfl ?_
    replace hf := g_o2 hf; obtain ⟨h1, hf⟩ := hf; subst h1
    replace hf := Option.some.inj hf; subst hf
    exact g_iret C d_OL_now_63 () rfl
  replace hf := g_in q1 hf
  by_cases q2 : p1 = 2
  · replace hf := g_ip q2 hf
    have e : (p1 : Int32).toInt = 2 := by rw [q2]; rfl
    refine g_tableIn (off := 63) (tgt := 64) C d_OL_now_1 (by rw [e]; decide) (by rw [e]; decide) (by rw [e]; rfl) rfl ?_
    refine g_aload_n (pc' := 65) C 0 d_OL_now_64 rfl rfl ?_
    refine g_get (pc' := 68) C kf_OL 0 mw_2_44 d_OL_now_65 rfl 0 rfl (by decide) rfl ?_
    refine g_get (pc' := 71) C kf_Wa 2 mw_1_73 d_OL_now_68 rfl 2 rfl (by decide) rfl ?_
    replace hf := g_o2 hf; obtain ⟨h1, hf⟩ := hf; subst h1
    replace hf := Option.some.inj hf; subst hf
    exact g_iret C d_OL_now_71 () rfl
  replace hf := g_in q2 hf
  by_cases q3 : p1 = 3
  · replace hf := g_ip q3 hf
    have e : (p1 : Int32).toInt = 3 := by rw [q3]; rfl
    refine g_tableIn (off := 71) (tgt := 72) C d_OL_now_1 (by rw [e]; decide) (by rw [e]; decide) (by rw [e]; rfl) rfl ?_
    refine g_aload_n (pc' := 73) C 0 d_OL_now_72 rfl rfl ?_
    refine g_get (pc' := 76) C kf_OL 0 mw_2_44 d_OL_now_73 rfl 0 rfl (by decide) rfl ?_
    refine g_get (pc' := 79) C kf_Wa 4 mw_1_78 d_OL_now_76 rfl 2 rfl (by decide) rfl ?_
    replace hf := g_bi hf; obtain ⟨r1, hc2, hf⟩ := hf
    refine g_callV (pc' := 82) (st1 := [.int r1]) (ws1 := [O_OL a_o a_o_wall a_o_imageOfWall x_o_imageIsKept a_o_rules a_o_tape a_o_costs a_o_thought a_o_acts a_o_shelves, O_Ru a_o_rules x_o_rules_rest x_o_rules_shy a_o_rules_law a_o_rules_asked a_o_rules_forbidden x_o_rules_askedForLamps, O_Wa a_o_wall x_o_wall_lamps x_o_wall_picture x_o_wall_night x_o_wall_spent a_o_wall_had a_o_wall_told a_o_wall_last a_o_wall_often, O_Co a_o_costs a_o_costs_prices a_o_costs_lamps a_o_costs_before a_o_costs_after a_o_costs_sorted x_o_costs_done x_o_costs_undone, A_I dA a_o_costs_sorted 10 x_o_costs_sorted, A_I dA a_o_costs_prices 10 x_o_costs_prices, O_Pi a_o_wall_had a_o_wall_had_words, A_J dA a_o_wall_had_words 16 x_o_wall_had_words]) C (c_Pi_size (l := l) (D := D) (dA := dA) (a_o := a_o_wall_had) (a_o_words := a_o_wall_had_words)   hc2) yy_Pi_size kf_Pi rfl mw_2_205 d_OL_now_79 rfl [] rfl rfl (Nat.le_of_ble_eq_true rfl) ⟨Nat.le_of_ble_eq_true rfl, Nat.le_of_ble_eq_true rfl⟩ rfl rfl (Nat.zero_le _) (Nat.zero_le _) 6 rfl [6, 7] rfl (by decide +kernel) rfl (g_lay_sel _ _ _ _ [(0, false), (1, false), (2, false), (3, false), (4, false), (5, false), (0, true), (1, true)] (by decide +kernel) rfl (by decide +kernel) rfl rfl) rfl ?_
    replace hf := g_o2 hf; obtain ⟨h1, hf⟩ := hf; subst h1
    replace hf := Option.some.inj hf; subst hf
    exact g_iret C d_OL_now_82 () rfl
  replace hf := g_in q3 hf
  by_cases q4 : p1 = 4
  · replace hf := g_ip q4 hf
    have e : (p1 : Int32).toInt = 4 := by rw [q4]; rfl
    refine g_tableIn (off := 82) (tgt := 83) C d_OL_now_1 (by rw [e]; decide) (by rw [e]; decide) (by rw [e]; rfl) rfl ?_
    refine g_aload_n (pc' := 84) C 0 d_OL_now_83 rfl rfl ?_
    refine g_get (pc' := 87) C kf_OL 0 mw_2_44 d_OL_now_84 rfl 0 rfl (by decide) rfl ?_
    refine g_get (pc' := 90) C kf_Wa 3 mw_1_75 d_OL_now_87 rfl 2 rfl (by decide) rfl ?_
    replace hf := g_o2 hf; obtain ⟨h1, hf⟩ := hf; subst h1
    replace hf := Option.some.inj hf; subst hf
    exact g_iret C d_OL_now_90 () rfl
  replace hf := g_in q4 hf
  by_cases q5 : p1 = 5
  · replace hf := g_ip q5 hf
    have e : (p1 : Int32).toInt = 5 := by rw [q5]; rfl
    refine g_tableIn (off := 90) (tgt := 91) C d_OL_now_1 (by rw [e]; decide) (by rw [e]; decide) (by rw [e]; rfl) rfl ?_
    refine g_aload_n (pc' := 92) C 0 d_OL_now_91 rfl rfl ?_
    refine g_get (pc' := 95) C kf_OL 5 mw_2_49 d_OL_now_92 rfl 0 rfl (by decide) rfl ?_
    refine g_aload_n (pc' := 96) C 0 d_OL_now_95 rfl rfl ?_
    refine g_get (pc' := 99) C kf_OL 0 mw_2_44 d_OL_now_96 rfl 0 rfl (by decide) rfl ?_
    refine g_get (pc' := 102) C kf_Wa 0 mw_1_64 d_OL_now_99 rfl 2 rfl (by decide) rfl ?_
    replace hf := g_bi hf; obtain ⟨⟨r3, u4⟩, hc5, hf⟩ := hf
    dsimp only at hf
    refine g_callV (pc' := 105) (st1 := [.int r3]) (ws1 := [O_OL a_o a_o_wall a_o_imageOfWall x_o_imageIsKept a_o_rules a_o_tape a_o_costs a_o_thought a_o_acts a_o_shelves, O_Ru a_o_rules x_o_rules_rest x_o_rules_shy a_o_rules_law a_o_rules_asked a_o_rules_forbidden x_o_rules_askedForLamps, O_Wa a_o_wall x_o_wall_lamps x_o_wall_picture x_o_wall_night x_o_wall_spent a_o_wall_had a_o_wall_told a_o_wall_last a_o_wall_often, O_Co a_o_costs a_o_costs_prices a_o_costs_lamps a_o_costs_before a_o_costs_after a_o_costs_sorted x_o_costs_done x_o_costs_undone, A_I dA a_o_costs_sorted 10 u4, A_I dA a_o_costs_prices 10 x_o_costs_prices, O_Pi a_o_wall_had a_o_wall_had_words, A_J dA a_o_wall_had_words 16 x_o_wall_had_words]) C (c_Co_leastFor (l := l) (D := D) (dA := dA) (a_o := a_o_costs) (a_o_prices := a_o_costs_prices) (a_o_lamps := a_o_costs_lamps) (a_o_before := a_o_costs_before) (a_o_after := a_o_costs_after) (a_o_sorted := a_o_costs_sorted) (x_o_done := x_o_costs_done) (x_o_undone := x_o_costs_undone)   hc5) yy_Co_leastFor kf_Co rfl mw_2_215 d_OL_now_102 rfl [] rfl rfl (Nat.le_of_ble_eq_true rfl) ⟨Nat.le_of_ble_eq_true rfl, Nat.le_of_ble_eq_true rfl⟩ rfl rfl (Nat.zero_le _) (Nat.zero_le _) 3 rfl [3, 4, 5] rfl (by decide +kernel) rfl (g_lay_sel _ _ _ _ [(0, false), (1, false), (2, false), (0, true), (1, true), (2, true), (6, false), (7, false)] (by decide +kernel) rfl (by decide +kernel) rfl rfl) rfl ?_
    replace hf := g_o2 hf; obtain ⟨h1, hf⟩ := hf; subst h1
    replace hf := Option.some.inj hf; subst hf
    exact g_iret C d_OL_now_105 () rfl
  replace hf := g_in q5 hf
  by_cases q6 : p1 = 6
  · replace hf := g_ip q6 hf
    have e : (p1 : Int32).toInt = 6 := by rw [q6]; rfl
    refine g_tableIn (off := 105) (tgt := 106) C d_OL_now_1 (by rw [e]; decide) (by rw [e]; decide) (by rw [e]; rfl) rfl ?_
    refine g_aload_n (pc' := 107) C 0 d_OL_now_106 rfl rfl ?_
    refine g_get (pc' := 110) C kf_OL 3 mw_2_47 d_OL_now_107 rfl 0 rfl (by decide) rfl ?_
    refine g_get (pc' := 113) C kf_Ru 0 mw_1_131 d_OL_now_110 rfl 1 rfl (by decide) rfl ?_
    replace hf := g_o2 hf; obtain ⟨h1, hf⟩ := hf; subst h1
    replace hf := Option.some.inj hf; subst hf
    exact g_iret C d_OL_now_113 () rfl
  replace hf := g_in q6 hf
  by_cases q7 : p1 = 7
  · replace hf := g_ip q7 hf
    have e : (p1 : Int32).toInt = 7 := by rw [q7]; rfl
    refine g_tableIn (off := 113) (tgt := 114) C d_OL_now_1 (by rw [e]; decide) (by rw [e]; decide) (by rw [e]; rfl) rfl ?_
    refine g_aload_n (pc' := 115) C 0 d_OL_now_114 rfl rfl ?_
    refine g_get (pc' := 118) C kf_OL 3 mw_2_47 d_OL_now_115 rfl 0 rfl (by decide) rfl ?_
    refine g_get (pc' := 121) C kf_Ru 1 mw_1_133 d_OL_now_118 rfl 1 rfl (by decide) rfl ?_
    replace hf := g_o2 hf; obtain ⟨h1, hf⟩ := hf; subst h1
    replace hf := Option.some.inj hf; subst hf
    exact g_iret C d_OL_now_121 () rfl
  replace hf := g_in q7 hf
  refine g_tableOut (tgt := 122) C d_OL_now_1 (by have e0 := lv_neT q0 (show (0 : Int32).toInt = 0 from rfl); have e1 := lv_neT q1 (show (1 : Int32).toInt = 1 from rfl); have e2 := lv_neT q2 (show (2 : Int32).toInt = 2 from rfl); have e3 := lv_neT q3 (show (3 : Int32).toInt = 3 from rfl); have e4 := lv_neT q4 (show (4 : Int32).toInt = 4 from rfl); have e5 := lv_neT q5 (show (5 : Int32).toInt = 5 from rfl); have e6 := lv_neT q6 (show (6 : Int32).toInt = 6 from rfl); have e7 := lv_neT q7 (show (7 : Int32).toInt = 7 from rfl); omega) rfl ?_
  refine g_iconst (pc' := 123) (v := (-1)) C d_OL_now_122 rfl rfl ?_
  replace hf := g_o2 hf; obtain ⟨h1, hf⟩ := hf; subst h1
  replace hf := Option.some.inj hf; subst hf
  exact g_iret C d_OL_now_123 () rfl
def y_OL_picture : MethodName := ⟨"OneLamp", "picture", "(II)I"⟩
theorem yy_OL_picture : YV y_OL_picture prog_1_method_11_code 4 (some .int) 2 := ⟨mw_2_222, mw_1_1, mw_2_220, mw_2_221, by decide +kernel, by decide +kernel, by decide +kernel⟩
theorem d_OL_picture_0 : decode prog_1_method_11_code 0 = .ok (.aload_n 0, 1) := by decide +kernel
theorem d_OL_picture_1 : decode prog_1_method_11_code 1 = .ok (.getfield 10, 3) := by decide +kernel
theorem d_OL_picture_4 : decode prog_1_method_11_code 4 = .ok (.iload_n 1, 1) := by decide +kernel
theorem d_OL_picture_5 : decode prog_1_method_11_code 5 = .ok (.invokevirtual 78, 3) := by decide +kernel
theorem d_OL_picture_8 : decode prog_1_method_11_code 8 = .ok (.ifCond .eq 12, 3) := by decide +kernel
theorem d_OL_picture_11 : decode prog_1_method_11_code 11 = .ok (.iload_n 2, 1) := by decide +kernel
theorem d_OL_picture_12 : decode prog_1_method_11_code 12 = .ok (.ifCond .lt 8, 3) := by decide +kernel
theorem d_OL_picture_15 : decode prog_1_method_11_code 15 = .ok (.iload_n 2, 1) := by decide +kernel
theorem d_OL_picture_16 : decode prog_1_method_11_code 16 = .ok (.iconst 1, 1) := by decide +kernel
theorem d_OL_picture_17 : decode prog_1_method_11_code 17 = .ok (.if_icmp .le 5, 3) := by decide +kernel
theorem d_OL_picture_20 : decode prog_1_method_11_code 20 = .ok (.iconst (-1), 1) := by decide +kernel
theorem d_OL_picture_21 : decode prog_1_method_11_code 21 = .ok (.ireturn, 1) := by decide +kernel
theorem d_OL_picture_22 : decode prog_1_method_11_code 22 = .ok (.iload_n 2, 1) := by decide +kernel
theorem d_OL_picture_23 : decode prog_1_method_11_code 23 = .ok (.ifCond .ne 17, 3) := by decide +kernel
theorem d_OL_picture_26 : decode prog_1_method_11_code 26 = .ok (.aload_n 0, 1) := by decide +kernel
theorem d_OL_picture_27 : decode prog_1_method_11_code 27 = .ok (.getfield 10, 3) := by decide +kernel
theorem d_OL_picture_30 : decode prog_1_method_11_code 30 = .ok (.getfield 145, 3) := by decide +kernel
theorem d_OL_picture_33 : decode prog_1_method_11_code 33 = .ok (.iload_n 1, 1) := by decide +kernel
theorem d_OL_picture_34 : decode prog_1_method_11_code 34 = .ok (.invokevirtual 82, 3) := by decide +kernel
theorem d_OL_picture_37 : decode prog_1_method_11_code 37 = .ok (.goto 15, 3) := by decide +kernel
theorem d_OL_picture_40 : decode prog_1_method_11_code 40 = .ok (.aload_n 0, 1) := by decide +kernel
theorem d_OL_picture_41 : decode prog_1_method_11_code 41 = .ok (.getfield 22, 3) := by decide +kernel
theorem d_OL_picture_44 : decode prog_1_method_11_code 44 = .ok (.aload_n 0, 1) := by decide +kernel
theorem d_OL_picture_45 : decode prog_1_method_11_code 45 = .ok (.getfield 10, 3) := by decide +kernel
theorem d_OL_picture_48 : decode prog_1_method_11_code 48 = .ok (.iload_n 1, 1) := by decide +kernel
theorem d_OL_picture_49 : decode prog_1_method_11_code 49 = .ok (.invokevirtual 157, 3) := by decide +kernel
theorem d_OL_picture_52 : decode prog_1_method_11_code 52 = .ok (.istore_n 3, 1) := by decide +kernel
theorem d_OL_picture_53 : decode prog_1_method_11_code 53 = .ok (.iload_n 3, 1) := by decide +kernel
theorem d_OL_picture_54 : decode prog_1_method_11_code 54 = .ok (.ifCond .eq 7, 3) := by decide +kernel
theorem d_OL_picture_57 : decode prog_1_method_11_code 57 = .ok (.iconst 1, 1) := by decide +kernel
theorem d_OL_picture_58 : decode prog_1_method_11_code 58 = .ok (.goto 4, 3) := by decide +kernel
theorem d_OL_picture_61 : decode prog_1_method_11_code 61 = .ok (.iconst 0, 1) := by decide +kernel
theorem d_OL_picture_62 : decode prog_1_method_11_code 62 = .ok (.ireturn, 1) := by decide +kernel
def f_OL_picture_L52   (s0 : Bool) (x_o_rules_askedForLamps : Int32) (x_o_rules_asked_words : Nat → Int64) (x_o_rules_forbidden_words : Nat → Int64) (x_o_rules_law_top : Int32) (x_o_rules_law_stack : Nat → Int32) : Option (Int32 × Int32 × (Nat → Int64) × (Nat → Int64) × Int32 × (Nat → Int32)) :=
  if s0 = true then
    (some ((1 : Int32), x_o_rules_askedForLamps, x_o_rules_asked_words, x_o_rules_forbidden_words, x_o_rules_law_top, x_o_rules_law_stack))
  else
    (some ((0 : Int32), x_o_rules_askedForLamps, x_o_rules_asked_words, x_o_rules_forbidden_words, x_o_rules_law_top, x_o_rules_law_stack))
set_option maxRecDepth 20000 in
theorem w_OL_picture_L52 {p : Program} {l : Launch} {e : Env} {s : State} {m : MethodId} {args : Array Value} {below : List Frame} {meth : Method} {c : Code} {D : va_G} {dA : Nat → ClassId} {A : Nat → Prop} (C : GC p s m args meth c prog_1_method_11_code 4 "OneLamp" (some .int) D dA A) {a_o a_o_wall a_o_imageOfWall a_o_rules a_o_tape a_o_costs a_o_thought a_o_acts a_o_shelves a_o_wall_had a_o_wall_told a_o_wall_last a_o_wall_often a_o_wall_had_words a_o_rules_law a_o_rules_asked a_o_rules_forbidden a_o_rules_asked_words a_o_rules_forbidden_words a_o_rules_law_code a_o_rules_law_stack a_o_wall_told_words : Nat} {x_o_imageIsKept : Bool} {x_o_wall_lamps : Int32} {x_o_wall_picture : Int32} {x_o_wall_night : Int32} {x_o_wall_spent : Int32} {x_o_wall_had_words : Nat → Int64} {x_o_rules_rest : Int32} {x_o_rules_shy : Int32} {x_o_rules_law_length : Int32} {x_o_rules_law_code : Nat → Int32} {x_o_wall_told_words : Nat → Int64} {r0 : Int32} {o_x_o_rules_askedForLamps : Int32} {o_x_o_rules_asked_words : Nat → Int64} {o_x_o_rules_forbidden_words : Nat → Int64} {o_x_o_rules_law_top : Int32} {o_x_o_rules_law_stack : Nat → Int32}    (s0 : Bool) (x_o_rules_askedForLamps : Int32) (x_o_rules_asked_words : Nat → Int64) (x_o_rules_forbidden_words : Nat → Int64) (x_o_rules_law_top : Int32) (x_o_rules_law_stack : Nat → Int32) (hf : f_OL_picture_L52   s0 x_o_rules_askedForLamps x_o_rules_asked_words x_o_rules_forbidden_words x_o_rules_law_top x_o_rules_law_stack = some (r0, o_x_o_rules_askedForLamps, o_x_o_rules_asked_words, o_x_o_rules_forbidden_words, o_x_o_rules_law_top, o_x_o_rules_law_stack)) : GG p l e { frames := 4, cells := 0, slots := 0, locals := 92 } s m args below meth c 4 D A 0 0 (MQ below (cQ D A (some (.int r0)) (fun _ : Unit => [O_OL a_o a_o_wall a_o_imageOfWall x_o_imageIsKept a_o_rules a_o_tape a_o_costs a_o_thought a_o_acts a_o_shelves, O_Wa a_o_wall x_o_wall_lamps x_o_wall_picture x_o_wall_night x_o_wall_spent a_o_wall_had a_o_wall_told a_o_wall_last a_o_wall_often, O_Pi a_o_wall_had a_o_wall_had_words, A_J dA a_o_wall_had_words 16 x_o_wall_had_words, O_Ru a_o_rules x_o_rules_rest x_o_rules_shy a_o_rules_law a_o_rules_asked a_o_rules_forbidden o_x_o_rules_askedForLamps, O_Pi a_o_rules_asked a_o_rules_asked_words, A_J dA a_o_rules_asked_words 16 o_x_o_rules_asked_words, O_Pi a_o_rules_forbidden a_o_rules_forbidden_words, A_J dA a_o_rules_forbidden_words 16 o_x_o_rules_forbidden_words, O_La a_o_rules_law a_o_rules_law_code x_o_rules_law_length a_o_rules_law_stack o_x_o_rules_law_top, A_I dA a_o_rules_law_code 256 x_o_rules_law_code, A_I dA a_o_rules_law_stack 256 o_x_o_rules_law_stack, O_Pi a_o_wall_told a_o_wall_told_words, A_J dA a_o_wall_told_words 16 x_o_wall_told_words])) args s 0 0 A) 52 [] [.int (b2i s0)] [O_OL a_o a_o_wall a_o_imageOfWall x_o_imageIsKept a_o_rules a_o_tape a_o_costs a_o_thought a_o_acts a_o_shelves, O_Wa a_o_wall x_o_wall_lamps x_o_wall_picture x_o_wall_night x_o_wall_spent a_o_wall_had a_o_wall_told a_o_wall_last a_o_wall_often, O_Pi a_o_wall_had a_o_wall_had_words, A_J dA a_o_wall_had_words 16 x_o_wall_had_words, O_Ru a_o_rules x_o_rules_rest x_o_rules_shy a_o_rules_law a_o_rules_asked a_o_rules_forbidden x_o_rules_askedForLamps, O_Pi a_o_rules_asked a_o_rules_asked_words, A_J dA a_o_rules_asked_words 16 x_o_rules_asked_words, O_Pi a_o_rules_forbidden a_o_rules_forbidden_words, A_J dA a_o_rules_forbidden_words 16 x_o_rules_forbidden_words, O_La a_o_rules_law a_o_rules_law_code x_o_rules_law_length a_o_rules_law_stack x_o_rules_law_top, A_I dA a_o_rules_law_code 256 x_o_rules_law_code, A_I dA a_o_rules_law_stack 256 x_o_rules_law_stack, O_Pi a_o_wall_told a_o_wall_told_words, A_J dA a_o_wall_told_words 16 x_o_wall_told_words] := by
  unfold f_OL_picture_L52 at hf
  refine g_istore_n (pc' := 53) (lv' := [(3, .int (b2i s0))]) C d_OL_picture_52 rfl (by decide) rfl ?_
  refine g_iload_n (pc' := 54) C 0 d_OL_picture_53 rfl rfl ?_
  refine g_if_eqb (pc' := 57) (tgt := 61) C d_OL_picture_54 rfl rfl (fun h => ?_) (fun h => ?_)
  · replace hf := g_bf h hf
    refine g_iconst (pc' := 62) (v := 0) C d_OL_picture_61 rfl rfl ?_
    replace hf := g_o2 hf; obtain ⟨h1, hf⟩ := hf; subst h1
    replace hf := g_o2 hf; obtain ⟨h1, hf⟩ := hf; subst h1
    replace hf := g_o2 hf; obtain ⟨h1, hf⟩ := hf; subst h1
    replace hf := g_o2 hf; obtain ⟨h1, hf⟩ := hf; subst h1
    replace hf := g_o2 hf; obtain ⟨h1, hf⟩ := hf; subst h1
    replace hf := Option.some.inj hf; subst hf
    exact g_iret C d_OL_picture_62 () rfl
  · replace hf := g_bt h hf
    refine g_iconst (pc' := 58) (v := 1) C d_OL_picture_57 rfl rfl ?_
    refine g_goto (tgt := 62) C d_OL_picture_58 rfl ?_
    replace hf := g_o2 hf; obtain ⟨h1, hf⟩ := hf; subst h1
    replace hf := g_o2 hf; obtain ⟨h1, hf⟩ := hf; subst h1
    replace hf := g_o2 hf; obtain ⟨h1, hf⟩ := hf; subst h1
    replace hf := g_o2 hf; obtain ⟨h1, hf⟩ := hf; subst h1
    replace hf := g_o2 hf; obtain ⟨h1, hf⟩ := hf; subst h1
    replace hf := Option.some.inj hf; subst hf
    exact g_iret C d_OL_picture_62 () rfl
def f_OL_picture  (p1 : Int32) (p2 : Int32) (x_o_wall_lamps : Int32) (x_o_wall_had_words : Nat → Int64) (x_o_rules_askedForLamps : Int32) (x_o_rules_asked_words : Nat → Int64) (x_o_rules_forbidden_words : Nat → Int64) (x_o_rules_law_length : Int32) (x_o_rules_law_top : Int32) (x_o_rules_law_code : Nat → Int32) (x_o_rules_law_stack : Nat → Int32) (x_o_wall_told_words : Nat → Int64) : Option (Int32 × Int32 × (Nat → Int64) × (Nat → Int64) × Int32 × (Nat → Int32)) :=
  (f_Wa_hasPicture  p1 x_o_wall_lamps).bind fun r1 =>
  if r1 = true then
    (if p2 < 0 then
      (some ((-1 : Int32), x_o_rules_askedForLamps, x_o_rules_asked_words, x_o_rules_forbidden_words, x_o_rules_law_top, x_o_rules_law_stack))
    else
      (if p2 ≤ (1 : Int32) then
        (if p2 = 0 then
          ((f_Pi_holds  p1 x_o_wall_had_words).bind fun r10 =>
          f_OL_picture_L52  r10 x_o_rules_askedForLamps x_o_rules_asked_words x_o_rules_forbidden_words x_o_rules_law_top x_o_rules_law_stack)
        else
          ((f_Ru_isBarred  p1 x_o_wall_lamps x_o_rules_askedForLamps x_o_rules_asked_words x_o_rules_forbidden_words x_o_rules_law_length x_o_rules_law_top x_o_rules_law_code x_o_rules_law_stack x_o_wall_told_words).bind fun (r3, u4, u5, u6, u7, u8) =>
          f_OL_picture_L52  r3 u4 u5 u6 u7 u8))
      else
        (some ((-1 : Int32), x_o_rules_askedForLamps, x_o_rules_asked_words, x_o_rules_forbidden_words, x_o_rules_law_top, x_o_rules_law_stack))))
  else
    (some ((-1 : Int32), x_o_rules_askedForLamps, x_o_rules_asked_words, x_o_rules_forbidden_words, x_o_rules_law_top, x_o_rules_law_stack))
set_option maxRecDepth 20000 in
theorem c_OL_picture {l : Launch} {D : va_G} {dA : Nat → ClassId} {a_o a_o_wall a_o_imageOfWall a_o_rules a_o_tape a_o_costs a_o_thought a_o_acts a_o_shelves a_o_wall_had a_o_wall_told a_o_wall_last a_o_wall_often a_o_wall_had_words a_o_rules_law a_o_rules_asked a_o_rules_forbidden a_o_rules_asked_words a_o_rules_forbidden_words a_o_rules_law_code a_o_rules_law_stack a_o_wall_told_words : Nat} {x_o_imageIsKept : Bool} {x_o_wall_picture : Int32} {x_o_wall_night : Int32} {x_o_wall_spent : Int32} {x_o_rules_rest : Int32} {x_o_rules_shy : Int32} {p1 : Int32} {p2 : Int32} {x_o_wall_lamps : Int32} {x_o_wall_had_words : Nat → Int64} {x_o_rules_askedForLamps : Int32} {x_o_rules_asked_words : Nat → Int64} {x_o_rules_forbidden_words : Nat → Int64} {x_o_rules_law_length : Int32} {x_o_rules_law_top : Int32} {x_o_rules_law_code : Nat → Int32} {x_o_rules_law_stack : Nat → Int32} {x_o_wall_told_words : Nat → Int64} {r0 : Int32} {o_x_o_rules_askedForLamps : Int32} {o_x_o_rules_asked_words : Nat → Int64} {o_x_o_rules_forbidden_words : Nat → Int64} {o_x_o_rules_law_top : Int32} {o_x_o_rules_law_stack : Nat → Int32}   (hf : f_OL_picture  p1 p2 x_o_wall_lamps x_o_wall_had_words x_o_rules_askedForLamps x_o_rules_asked_words x_o_rules_forbidden_words x_o_rules_law_length x_o_rules_law_top x_o_rules_law_code x_o_rules_law_stack x_o_wall_told_words = some (r0, o_x_o_rules_askedForLamps, o_x_o_rules_asked_words, o_x_o_rules_forbidden_words, o_x_o_rules_law_top, o_x_o_rules_law_stack)) : CT l y_OL_picture prog_1_method_11_code 4 (some .int) { frames := 4, cells := 0, slots := 0, locals := 92 } D dA [.ref a_o, .int p1, .int p2] [O_OL a_o a_o_wall a_o_imageOfWall x_o_imageIsKept a_o_rules a_o_tape a_o_costs a_o_thought a_o_acts a_o_shelves, O_Wa a_o_wall x_o_wall_lamps x_o_wall_picture x_o_wall_night x_o_wall_spent a_o_wall_had a_o_wall_told a_o_wall_last a_o_wall_often, O_Pi a_o_wall_had a_o_wall_had_words, A_J dA a_o_wall_had_words 16 x_o_wall_had_words, O_Ru a_o_rules x_o_rules_rest x_o_rules_shy a_o_rules_law a_o_rules_asked a_o_rules_forbidden x_o_rules_askedForLamps, O_Pi a_o_rules_asked a_o_rules_asked_words, A_J dA a_o_rules_asked_words 16 x_o_rules_asked_words, O_Pi a_o_rules_forbidden a_o_rules_forbidden_words, A_J dA a_o_rules_forbidden_words 16 x_o_rules_forbidden_words, O_La a_o_rules_law a_o_rules_law_code x_o_rules_law_length a_o_rules_law_stack x_o_rules_law_top, A_I dA a_o_rules_law_code 256 x_o_rules_law_code, A_I dA a_o_rules_law_stack 256 x_o_rules_law_stack, O_Pi a_o_wall_told a_o_wall_told_words, A_J dA a_o_wall_told_words 16 x_o_wall_told_words] (some (.int r0)) (fun _ : Unit => [O_OL a_o a_o_wall a_o_imageOfWall x_o_imageIsKept a_o_rules a_o_tape a_o_costs a_o_thought a_o_acts a_o_shelves, O_Wa a_o_wall x_o_wall_lamps x_o_wall_picture x_o_wall_night x_o_wall_spent a_o_wall_had a_o_wall_told a_o_wall_last a_o_wall_often, O_Pi a_o_wall_had a_o_wall_had_words, A_J dA a_o_wall_had_words 16 x_o_wall_had_words, O_Ru a_o_rules x_o_rules_rest x_o_rules_shy a_o_rules_law a_o_rules_asked a_o_rules_forbidden o_x_o_rules_askedForLamps, O_Pi a_o_rules_asked a_o_rules_asked_words, A_J dA a_o_rules_asked_words 16 o_x_o_rules_asked_words, O_Pi a_o_rules_forbidden a_o_rules_forbidden_words, A_J dA a_o_rules_forbidden_words 16 o_x_o_rules_forbidden_words, O_La a_o_rules_law a_o_rules_law_code x_o_rules_law_length a_o_rules_law_stack o_x_o_rules_law_top, A_I dA a_o_rules_law_code 256 x_o_rules_law_code, A_I dA a_o_rules_law_stack 256 o_x_o_rules_law_stack, O_Pi a_o_wall_told a_o_wall_told_words, A_J dA a_o_wall_told_words 16 x_o_wall_told_words]) := by
  refine ct_intro "OneLamp" rfl (by decide +kernel) (Nat.le_of_ble_eq_true rfl) [(0, .ref a_o), (1, .int p1), (2, .int p2)] rfl (fun _ C => ?_)
  unfold f_OL_picture at hf
  refine g_aload_n (pc' := 1) C 0 d_OL_picture_0 rfl rfl ?_
  refine g_get (pc' := 4) C kf_OL 0 mw_2_44 d_OL_picture_1 rfl 0 rfl (by decide) rfl ?_
  refine g_iload_n (pc' := 5) C 1 d_OL_picture_4 rfl rfl ?_
  replace hf := g_bi hf; obtain ⟨r1, hc2, hf⟩ := hf
  refine g_callV (pc' := 8) (st1 := [.int (b2i r1)]) (ws1 := [O_OL a_o a_o_wall a_o_imageOfWall x_o_imageIsKept a_o_rules a_o_tape a_o_costs a_o_thought a_o_acts a_o_shelves, O_Wa a_o_wall x_o_wall_lamps x_o_wall_picture x_o_wall_night x_o_wall_spent a_o_wall_had a_o_wall_told a_o_wall_last a_o_wall_often, O_Pi a_o_wall_had a_o_wall_had_words, A_J dA a_o_wall_had_words 16 x_o_wall_had_words, O_Ru a_o_rules x_o_rules_rest x_o_rules_shy a_o_rules_law a_o_rules_asked a_o_rules_forbidden x_o_rules_askedForLamps, O_Pi a_o_rules_asked a_o_rules_asked_words, A_J dA a_o_rules_asked_words 16 x_o_rules_asked_words, O_Pi a_o_rules_forbidden a_o_rules_forbidden_words, A_J dA a_o_rules_forbidden_words 16 x_o_rules_forbidden_words, O_La a_o_rules_law a_o_rules_law_code x_o_rules_law_length a_o_rules_law_stack x_o_rules_law_top, A_I dA a_o_rules_law_code 256 x_o_rules_law_code, A_I dA a_o_rules_law_stack 256 x_o_rules_law_stack, O_Pi a_o_wall_told a_o_wall_told_words, A_J dA a_o_wall_told_words 16 x_o_wall_told_words]) C (c_Wa_hasPicture (l := l) (D := D) (dA := dA) (a_o := a_o_wall) (a_o_had := a_o_wall_had) (a_o_told := a_o_wall_told) (a_o_last := a_o_wall_last) (a_o_often := a_o_wall_often) (x_o_picture := x_o_wall_picture) (x_o_night := x_o_wall_night) (x_o_spent := x_o_wall_spent)   hc2) yy_Wa_hasPicture kf_Wa rfl mw_2_82 d_OL_picture_5 rfl [] rfl rfl (Nat.le_of_ble_eq_true rfl) ⟨Nat.le_of_ble_eq_true rfl, Nat.le_of_ble_eq_true rfl⟩ rfl rfl (Nat.zero_le _) (Nat.zero_le _) 1 rfl [1] rfl (by decide +kernel) rfl (g_lay_sel _ _ _ _ [(0, false), (0, true), (2, false), (3, false), (4, false), (5, false), (6, false), (7, false), (8, false), (9, false), (10, false), (11, false), (12, false), (13, false)] (by decide +kernel) rfl (by decide +kernel) rfl rfl) rfl ?_
  refine g_if_eqb (pc' := 11) (tgt := 20) C d_OL_picture_8 rfl rfl (fun h => ?_) (fun h => ?_)
  · replace hf := g_bf h hf
    refine g_iconst (pc' := 21) (v := (-1)) C d_OL_picture_20 rfl rfl ?_
    replace hf := g_o2 hf; obtain ⟨h1, hf⟩ := hf; subst h1
    replace hf := g_o2 hf; obtain ⟨h1, hf⟩ := hf; subst h1
    replace hf := g_o2 hf; obtain ⟨h1, hf⟩ := hf; subst h1
    replace hf := g_o2 hf; obtain ⟨h1, hf⟩ := hf; subst h1
    replace hf := g_o2 hf; obtain ⟨h1, hf⟩ := hf; subst h1
    replace hf := Option.some.inj hf; subst hf
    exact g_iret C d_OL_picture_21 () rfl
  · replace hf := g_bt h hf
    refine g_iload_n (pc' := 12) C 2 d_OL_picture_11 rfl rfl ?_
    refine g_if_lt (pc' := 15) (tgt := 20) C d_OL_picture_12 rfl rfl (fun h => ?_) (fun h => ?_)
    · replace hf := g_ip h hf
      refine g_iconst (pc' := 21) (v := (-1)) C d_OL_picture_20 rfl rfl ?_
      replace hf := g_o2 hf; obtain ⟨h1, hf⟩ := hf; subst h1
      replace hf := g_o2 hf; obtain ⟨h1, hf⟩ := hf; subst h1
      replace hf := g_o2 hf; obtain ⟨h1, hf⟩ := hf; subst h1
      replace hf := g_o2 hf; obtain ⟨h1, hf⟩ := hf; subst h1
      replace hf := g_o2 hf; obtain ⟨h1, hf⟩ := hf; subst h1
      replace hf := Option.some.inj hf; subst hf
      exact g_iret C d_OL_picture_21 () rfl
    · replace hf := g_in h hf
      refine g_iload_n (pc' := 16) C 2 d_OL_picture_15 rfl rfl ?_
      refine g_iconst (pc' := 17) (v := 1) C d_OL_picture_16 rfl rfl ?_
      refine g_icmp_le (pc' := 20) (tgt := 22) C d_OL_picture_17 rfl rfl (fun h => ?_) (fun h => ?_)
      · replace hf := g_ip h hf
        refine g_iload_n (pc' := 23) C 2 d_OL_picture_22 rfl rfl ?_
        refine g_if_ne (pc' := 26) (tgt := 40) C d_OL_picture_23 rfl rfl (fun h => ?_) (fun h => ?_)
        · replace hf := g_in h hf
          refine g_aload_n (pc' := 41) C 0 d_OL_picture_40 rfl rfl ?_
          refine g_get (pc' := 44) C kf_OL 3 mw_2_47 d_OL_picture_41 rfl 0 rfl (by decide) rfl ?_
          refine g_aload_n (pc' := 45) C 0 d_OL_picture_44 rfl rfl ?_
          refine g_get (pc' := 48) C kf_OL 0 mw_2_44 d_OL_picture_45 rfl 0 rfl (by decide) rfl ?_
          refine g_iload_n (pc' := 49) C 1 d_OL_picture_48 rfl rfl ?_
          replace hf := g_bi hf; obtain ⟨⟨r3, u4, u5, u6, u7, u8⟩, hc9, hf⟩ := hf
          dsimp only at hf
          refine g_callV (pc' := 52) (st1 := [.int (b2i r3)]) (ws1 := [O_OL a_o a_o_wall a_o_imageOfWall x_o_imageIsKept a_o_rules a_o_tape a_o_costs a_o_thought a_o_acts a_o_shelves, O_Wa a_o_wall x_o_wall_lamps x_o_wall_picture x_o_wall_night x_o_wall_spent a_o_wall_had a_o_wall_told a_o_wall_last a_o_wall_often, O_Pi a_o_wall_had a_o_wall_had_words, A_J dA a_o_wall_had_words 16 x_o_wall_had_words, O_Ru a_o_rules x_o_rules_rest x_o_rules_shy a_o_rules_law a_o_rules_asked a_o_rules_forbidden u4, O_Pi a_o_rules_asked a_o_rules_asked_words, A_J dA a_o_rules_asked_words 16 u5, O_Pi a_o_rules_forbidden a_o_rules_forbidden_words, A_J dA a_o_rules_forbidden_words 16 u6, O_La a_o_rules_law a_o_rules_law_code x_o_rules_law_length a_o_rules_law_stack u7, A_I dA a_o_rules_law_code 256 x_o_rules_law_code, A_I dA a_o_rules_law_stack 256 u8, O_Pi a_o_wall_told a_o_wall_told_words, A_J dA a_o_wall_told_words 16 x_o_wall_told_words]) C (c_Ru_isBarred (l := l) (D := D) (dA := dA) (a_o := a_o_rules) (a_p1 := a_o_wall) (a_p1_had := a_o_wall_had) (a_p1_told := a_o_wall_told) (a_p1_last := a_o_wall_last) (a_p1_often := a_o_wall_often) (a_o_law := a_o_rules_law) (a_o_asked := a_o_rules_asked) (a_o_forbidden := a_o_rules_forbidden) (a_o_asked_words := a_o_rules_asked_words) (a_o_forbidden_words := a_o_rules_forbidden_words) (a_o_law_code := a_o_rules_law_code) (a_o_law_stack := a_o_rules_law_stack) (a_p1_told_words := a_o_wall_told_words) (x_p1_picture := x_o_wall_picture) (x_p1_night := x_o_wall_night) (x_p1_spent := x_o_wall_spent) (x_o_rest := x_o_rules_rest) (x_o_shy := x_o_rules_shy)   hc9) yy_Ru_isBarred kf_Ru rfl mw_2_223 d_OL_picture_49 rfl [] rfl rfl (Nat.le_of_ble_eq_true rfl) ⟨Nat.le_of_ble_eq_true rfl, Nat.le_of_ble_eq_true rfl⟩ rfl rfl (Nat.zero_le _) (Nat.zero_le _) 4 rfl [1, 4, 5, 6, 7, 8, 9, 10, 11, 12, 13] rfl (by decide +kernel) rfl (g_lay_sel _ _ _ _ [(0, false), (0, true), (2, false), (3, false), (1, true), (2, true), (3, true), (4, true), (5, true), (6, true), (7, true), (8, true), (9, true), (10, true)] (by decide +kernel) rfl (by decide +kernel) rfl rfl) rfl ?_
          refine g_lv (lv' := []) [] rfl ?_
          exact w_OL_picture_L52 (a_o := a_o) (a_o_wall := a_o_wall) (a_o_imageOfWall := a_o_imageOfWall) (a_o_rules := a_o_rules) (a_o_tape := a_o_tape) (a_o_costs := a_o_costs) (a_o_thought := a_o_thought) (a_o_acts := a_o_acts) (a_o_shelves := a_o_shelves) (a_o_wall_had := a_o_wall_had) (a_o_wall_told := a_o_wall_told) (a_o_wall_last := a_o_wall_last) (a_o_wall_often := a_o_wall_often) (a_o_wall_had_words := a_o_wall_had_words) (a_o_rules_law := a_o_rules_law) (a_o_rules_asked := a_o_rules_asked) (a_o_rules_forbidden := a_o_rules_forbidden) (a_o_rules_asked_words := a_o_rules_asked_words) (a_o_rules_forbidden_words := a_o_rules_forbidden_words) (a_o_rules_law_code := a_o_rules_law_code) (a_o_rules_law_stack := a_o_rules_law_stack) (a_o_wall_told_words := a_o_wall_told_words) C   r3 u4 u5 u6 u7 u8 hf
        · replace hf := g_ip h hf
          refine g_aload_n (pc' := 27) C 0 d_OL_picture_26 rfl rfl ?_
          refine g_get (pc' := 30) C kf_OL 0 mw_2_44 d_OL_picture_27 rfl 0 rfl (by decide) rfl ?_
          refine g_get (pc' := 33) C kf_Wa 4 mw_1_78 d_OL_picture_30 rfl 1 rfl (by decide) rfl ?_
          refine g_iload_n (pc' := 34) C 1 d_OL_picture_33 rfl rfl ?_
          replace hf := g_bi hf; obtain ⟨r10, hc11, hf⟩ := hf
          refine g_callV (pc' := 37) (st1 := [.int (b2i r10)]) (ws1 := [O_OL a_o a_o_wall a_o_imageOfWall x_o_imageIsKept a_o_rules a_o_tape a_o_costs a_o_thought a_o_acts a_o_shelves, O_Wa a_o_wall x_o_wall_lamps x_o_wall_picture x_o_wall_night x_o_wall_spent a_o_wall_had a_o_wall_told a_o_wall_last a_o_wall_often, O_Pi a_o_wall_had a_o_wall_had_words, A_J dA a_o_wall_had_words 16 x_o_wall_had_words, O_Ru a_o_rules x_o_rules_rest x_o_rules_shy a_o_rules_law a_o_rules_asked a_o_rules_forbidden x_o_rules_askedForLamps, O_Pi a_o_rules_asked a_o_rules_asked_words, A_J dA a_o_rules_asked_words 16 x_o_rules_asked_words, O_Pi a_o_rules_forbidden a_o_rules_forbidden_words, A_J dA a_o_rules_forbidden_words 16 x_o_rules_forbidden_words, O_La a_o_rules_law a_o_rules_law_code x_o_rules_law_length a_o_rules_law_stack x_o_rules_law_top, A_I dA a_o_rules_law_code 256 x_o_rules_law_code, A_I dA a_o_rules_law_stack 256 x_o_rules_law_stack, O_Pi a_o_wall_told a_o_wall_told_words, A_J dA a_o_wall_told_words 16 x_o_wall_told_words]) C (c_Pi_holds (l := l) (D := D) (dA := dA) (a_o := a_o_wall_had) (a_o_words := a_o_wall_had_words)   hc11) yy_Pi_holds kf_Pi rfl mw_2_90 d_OL_picture_34 rfl [] rfl rfl (Nat.le_of_ble_eq_true rfl) ⟨Nat.le_of_ble_eq_true rfl, Nat.le_of_ble_eq_true rfl⟩ rfl rfl (Nat.zero_le _) (Nat.zero_le _) 2 rfl [2, 3] rfl (by decide +kernel) rfl (g_lay_sel _ _ _ _ [(0, false), (1, false), (0, true), (1, true), (4, false), (5, false), (6, false), (7, false), (8, false), (9, false), (10, false), (11, false), (12, false), (13, false)] (by decide +kernel) rfl (by decide +kernel) rfl rfl) rfl ?_
          refine g_goto (tgt := 52) C d_OL_picture_37 rfl ?_
          refine g_lv (lv' := []) [] rfl ?_
          exact w_OL_picture_L52 (a_o := a_o) (a_o_wall := a_o_wall) (a_o_imageOfWall := a_o_imageOfWall) (a_o_rules := a_o_rules) (a_o_tape := a_o_tape) (a_o_costs := a_o_costs) (a_o_thought := a_o_thought) (a_o_acts := a_o_acts) (a_o_shelves := a_o_shelves) (a_o_wall_had := a_o_wall_had) (a_o_wall_told := a_o_wall_told) (a_o_wall_last := a_o_wall_last) (a_o_wall_often := a_o_wall_often) (a_o_wall_had_words := a_o_wall_had_words) (a_o_rules_law := a_o_rules_law) (a_o_rules_asked := a_o_rules_asked) (a_o_rules_forbidden := a_o_rules_forbidden) (a_o_rules_asked_words := a_o_rules_asked_words) (a_o_rules_forbidden_words := a_o_rules_forbidden_words) (a_o_rules_law_code := a_o_rules_law_code) (a_o_rules_law_stack := a_o_rules_law_stack) (a_o_wall_told_words := a_o_wall_told_words) C   r10 x_o_rules_askedForLamps x_o_rules_asked_words x_o_rules_forbidden_words x_o_rules_law_top x_o_rules_law_stack hf
      · replace hf := g_in h hf
        refine g_iconst (pc' := 21) (v := (-1)) C d_OL_picture_20 rfl rfl ?_
        replace hf := g_o2 hf; obtain ⟨h1, hf⟩ := hf; subst h1
        replace hf := g_o2 hf; obtain ⟨h1, hf⟩ := hf; subst h1
        replace hf := g_o2 hf; obtain ⟨h1, hf⟩ := hf; subst h1
        replace hf := g_o2 hf; obtain ⟨h1, hf⟩ := hf; subst h1
        replace hf := g_o2 hf; obtain ⟨h1, hf⟩ := hf; subst h1
        replace hf := Option.some.inj hf; subst hf
        exact g_iret C d_OL_picture_21 () rfl
def y_OL_lamp : MethodName := ⟨"OneLamp", "lamp", "(II)I"⟩
theorem yy_OL_lamp : YV y_OL_lamp prog_1_method_12_code 3 (some .int) 2 := ⟨mw_3_31, mw_1_1, mw_3_29, mw_3_30, by decide +kernel, by decide +kernel, by decide +kernel⟩
theorem d_OL_lamp_0 : decode prog_1_method_12_code 0 = .ok (.aload_n 0, 1) := by decide +kernel
theorem d_OL_lamp_1 : decode prog_1_method_12_code 1 = .ok (.getfield 10, 3) := by decide +kernel
theorem d_OL_lamp_4 : decode prog_1_method_12_code 4 = .ok (.iload_n 1, 1) := by decide +kernel
theorem d_OL_lamp_5 : decode prog_1_method_12_code 5 = .ok (.invokevirtual 161, 3) := by decide +kernel
theorem d_OL_lamp_8 : decode prog_1_method_12_code 8 = .ok (.ifCond .ne 5, 3) := by decide +kernel
theorem d_OL_lamp_11 : decode prog_1_method_12_code 11 = .ok (.iconst (-1), 1) := by decide +kernel
theorem d_OL_lamp_12 : decode prog_1_method_12_code 12 = .ok (.ireturn, 1) := by decide +kernel
theorem d_OL_lamp_13 : decode prog_1_method_12_code 13 = .ok (.iload_n 2, 1) := by decide +kernel
theorem d_OL_lamp_14 : decode prog_1_method_12_code 14 = .ok (.tableswitch 53 0 2 #[26, 35, 44], 26) := by decide +kernel
theorem d_OL_lamp_40 : decode prog_1_method_12_code 40 = .ok (.aload_n 0, 1) := by decide +kernel
theorem d_OL_lamp_41 : decode prog_1_method_12_code 41 = .ok (.getfield 36, 3) := by decide +kernel
theorem d_OL_lamp_44 : decode prog_1_method_12_code 44 = .ok (.iload_n 1, 1) := by decide +kernel
theorem d_OL_lamp_45 : decode prog_1_method_12_code 45 = .ok (.invokevirtual 131, 3) := by decide +kernel
theorem d_OL_lamp_48 : decode prog_1_method_12_code 48 = .ok (.ireturn, 1) := by decide +kernel
theorem d_OL_lamp_49 : decode prog_1_method_12_code 49 = .ok (.aload_n 0, 1) := by decide +kernel
theorem d_OL_lamp_50 : decode prog_1_method_12_code 50 = .ok (.getfield 10, 3) := by decide +kernel
theorem d_OL_lamp_53 : decode prog_1_method_12_code 53 = .ok (.iload_n 1, 1) := by decide +kernel
theorem d_OL_lamp_54 : decode prog_1_method_12_code 54 = .ok (.invokevirtual 164, 3) := by decide +kernel
theorem d_OL_lamp_57 : decode prog_1_method_12_code 57 = .ok (.ireturn, 1) := by decide +kernel
theorem d_OL_lamp_58 : decode prog_1_method_12_code 58 = .ok (.aload_n 0, 1) := by decide +kernel
theorem d_OL_lamp_59 : decode prog_1_method_12_code 59 = .ok (.getfield 10, 3) := by decide +kernel
theorem d_OL_lamp_62 : decode prog_1_method_12_code 62 = .ok (.iload_n 1, 1) := by decide +kernel
theorem d_OL_lamp_63 : decode prog_1_method_12_code 63 = .ok (.invokevirtual 167, 3) := by decide +kernel
theorem d_OL_lamp_66 : decode prog_1_method_12_code 66 = .ok (.ireturn, 1) := by decide +kernel
theorem d_OL_lamp_67 : decode prog_1_method_12_code 67 = .ok (.iconst (-1), 1) := by decide +kernel
theorem d_OL_lamp_68 : decode prog_1_method_12_code 68 = .ok (.ireturn, 1) := by decide +kernel
def f_OL_lamp  (p1 : Int32) (p2 : Int32) (x_o_wall_lamps : Int32) (x_o_wall_last : Nat → Int32) (x_o_wall_often : Nat → Int32) (x_o_costs_prices : Nat → Int32) : Option (Int32) :=
  (f_Wa_hasLamp  p1 x_o_wall_lamps).bind fun r1 =>
  if r1 = true then
    (if p2 = 0 then
      ((f_Co_of  p1 x_o_costs_prices).bind fun r3 =>
      some (r3))
    else
    (if p2 = 1 then
      ((f_Wa_oftenOf  p1 x_o_wall_lamps x_o_wall_often).bind fun r5 =>
      some (r5))
    else
    (if p2 = 2 then
      ((f_Wa_lastOf  p1 x_o_wall_lamps x_o_wall_last).bind fun r7 =>
      some (r7))
    else
    (some ((-1 : Int32))))))
  else
    (some ((-1 : Int32)))
set_option maxRecDepth 20000 in
theorem c_OL_lamp {l : Launch} {D : va_G} {dA : Nat → ClassId} {a_o a_o_wall a_o_imageOfWall a_o_rules a_o_tape a_o_costs a_o_thought a_o_acts a_o_shelves a_o_wall_had a_o_wall_told a_o_wall_last a_o_wall_often a_o_costs_prices a_o_costs_lamps a_o_costs_before a_o_costs_after a_o_costs_sorted : Nat} {x_o_imageIsKept : Bool} {x_o_wall_picture : Int32} {x_o_wall_night : Int32} {x_o_wall_spent : Int32} {x_o_costs_done : Int32} {x_o_costs_undone : Int32} {p1 : Int32} {p2 : Int32} {x_o_wall_lamps : Int32} {x_o_wall_last : Nat → Int32} {x_o_wall_often : Nat → Int32} {x_o_costs_prices : Nat → Int32} {r0 : Int32}   (hf : f_OL_lamp  p1 p2 x_o_wall_lamps x_o_wall_last x_o_wall_often x_o_costs_prices = some r0) : CT l y_OL_lamp prog_1_method_12_code 3 (some .int) { frames := 2, cells := 0, slots := 0, locals := 42 } D dA [.ref a_o, .int p1, .int p2] [O_OL a_o a_o_wall a_o_imageOfWall x_o_imageIsKept a_o_rules a_o_tape a_o_costs a_o_thought a_o_acts a_o_shelves, O_Wa a_o_wall x_o_wall_lamps x_o_wall_picture x_o_wall_night x_o_wall_spent a_o_wall_had a_o_wall_told a_o_wall_last a_o_wall_often, A_I dA a_o_wall_last 10 x_o_wall_last, A_I dA a_o_wall_often 10 x_o_wall_often, O_Co a_o_costs a_o_costs_prices a_o_costs_lamps a_o_costs_before a_o_costs_after a_o_costs_sorted x_o_costs_done x_o_costs_undone, A_I dA a_o_costs_prices 10 x_o_costs_prices] (some (.int r0)) (fun _ : Unit => [O_OL a_o a_o_wall a_o_imageOfWall x_o_imageIsKept a_o_rules a_o_tape a_o_costs a_o_thought a_o_acts a_o_shelves, O_Wa a_o_wall x_o_wall_lamps x_o_wall_picture x_o_wall_night x_o_wall_spent a_o_wall_had a_o_wall_told a_o_wall_last a_o_wall_often, A_I dA a_o_wall_last 10 x_o_wall_last, A_I dA a_o_wall_often 10 x_o_wall_often, O_Co a_o_costs a_o_costs_prices a_o_costs_lamps a_o_costs_before a_o_costs_after a_o_costs_sorted x_o_costs_done x_o_costs_undone, A_I dA a_o_costs_prices 10 x_o_costs_prices]) := by
  refine ct_intro "OneLamp" rfl (by decide +kernel) (Nat.le_of_ble_eq_true rfl) [(0, .ref a_o), (1, .int p1), (2, .int p2)] rfl (fun _ C => ?_)
  unfold f_OL_lamp at hf
  refine g_aload_n (pc' := 1) C 0 d_OL_lamp_0 rfl rfl ?_
  refine g_get (pc' := 4) C kf_OL 0 mw_2_44 d_OL_lamp_1 rfl 0 rfl (by decide) rfl ?_
  refine g_iload_n (pc' := 5) C 1 d_OL_lamp_4 rfl rfl ?_
  replace hf := g_bi hf; obtain ⟨r1, hc2, hf⟩ := hf
  refine g_callV (pc' := 8) (st1 := [.int (b2i r1)]) (ws1 := [O_OL a_o a_o_wall a_o_imageOfWall x_o_imageIsKept a_o_rules a_o_tape a_o_costs a_o_thought a_o_acts a_o_shelves, O_Wa a_o_wall x_o_wall_lamps x_o_wall_picture x_o_wall_night x_o_wall_spent a_o_wall_had a_o_wall_told a_o_wall_last a_o_wall_often, A_I dA a_o_wall_last 10 x_o_wall_last, A_I dA a_o_wall_often 10 x_o_wall_often, O_Co a_o_costs a_o_costs_prices a_o_costs_lamps a_o_costs_before a_o_costs_after a_o_costs_sorted x_o_costs_done x_o_costs_undone, A_I dA a_o_costs_prices 10 x_o_costs_prices]) C (c_Wa_hasLamp (l := l) (D := D) (dA := dA) (a_o := a_o_wall) (a_o_had := a_o_wall_had) (a_o_told := a_o_wall_told) (a_o_last := a_o_wall_last) (a_o_often := a_o_wall_often) (x_o_picture := x_o_wall_picture) (x_o_night := x_o_wall_night) (x_o_spent := x_o_wall_spent)   hc2) yy_Wa_hasLamp kf_Wa rfl mw_3_32 d_OL_lamp_5 rfl [] rfl rfl (Nat.le_of_ble_eq_true rfl) ⟨Nat.le_of_ble_eq_true rfl, Nat.le_of_ble_eq_true rfl⟩ rfl rfl (Nat.zero_le _) (Nat.zero_le _) 1 rfl [1] rfl (by decide +kernel) rfl (g_lay_sel _ _ _ _ [(0, false), (0, true), (2, false), (3, false), (4, false), (5, false)] (by decide +kernel) rfl (by decide +kernel) rfl rfl) rfl ?_
  refine g_if_neb (pc' := 11) (tgt := 13) C d_OL_lamp_8 rfl rfl (fun h => ?_) (fun h => ?_)
  · replace hf := g_bt h hf
    refine g_iload_n (pc' := 14) C 2 d_OL_lamp_13 rfl rfl ?_
    by_cases q0 : p2 = 0
    · replace hf := g_ip q0 hf
      have e : (p2 : Int32).toInt = 0 := by rw [q0]; rfl
      refine g_tableIn (off := 26) (tgt := 40) C d_OL_lamp_14 (by rw [e]; decide) (by rw [e]; decide) (by rw [e]; rfl) rfl ?_
      refine g_aload_n (pc' := 41) C 0 d_OL_lamp_40 rfl rfl ?_
      refine g_get (pc' := 44) C kf_OL 5 mw_2_49 d_OL_lamp_41 rfl 0 rfl (by decide) rfl ?_
      refine g_iload_n (pc' := 45) C 1 d_OL_lamp_44 rfl rfl ?_
      replace hf := g_bi hf; obtain ⟨r3, hc4, hf⟩ := hf
      refine g_callV (pc' := 48) (st1 := [.int r3]) (ws1 := [O_OL a_o a_o_wall a_o_imageOfWall x_o_imageIsKept a_o_rules a_o_tape a_o_costs a_o_thought a_o_acts a_o_shelves, O_Wa a_o_wall x_o_wall_lamps x_o_wall_picture x_o_wall_night x_o_wall_spent a_o_wall_had a_o_wall_told a_o_wall_last a_o_wall_often, A_I dA a_o_wall_last 10 x_o_wall_last, A_I dA a_o_wall_often 10 x_o_wall_often, O_Co a_o_costs a_o_costs_prices a_o_costs_lamps a_o_costs_before a_o_costs_after a_o_costs_sorted x_o_costs_done x_o_costs_undone, A_I dA a_o_costs_prices 10 x_o_costs_prices]) C (c_Co_of (l := l) (D := D) (dA := dA) (a_o := a_o_costs) (a_o_prices := a_o_costs_prices) (a_o_lamps := a_o_costs_lamps) (a_o_before := a_o_costs_before) (a_o_after := a_o_costs_after) (a_o_sorted := a_o_costs_sorted) (x_o_done := x_o_costs_done) (x_o_undone := x_o_costs_undone)   hc4) yy_Co_of kf_Co rfl mw_2_183 d_OL_lamp_45 rfl [] rfl rfl (Nat.le_of_ble_eq_true rfl) ⟨Nat.le_of_ble_eq_true rfl, Nat.le_of_ble_eq_true rfl⟩ rfl rfl (Nat.zero_le _) (Nat.zero_le _) 4 rfl [4, 5] rfl (by decide +kernel) rfl (g_lay_sel _ _ _ _ [(0, false), (1, false), (2, false), (3, false), (0, true), (1, true)] (by decide +kernel) rfl (by decide +kernel) rfl rfl) rfl ?_
      replace hf := Option.some.inj hf; subst hf
      exact g_iret C d_OL_lamp_48 () rfl
    replace hf := g_in q0 hf
    by_cases q1 : p2 = 1
    · replace hf := g_ip q1 hf
      have e : (p2 : Int32).toInt = 1 := by rw [q1]; rfl
      refine g_tableIn (off := 35) (tgt := 49) C d_OL_lamp_14 (by rw [e]; decide) (by rw [e]; decide) (by rw [e]; rfl) rfl ?_
      refine g_aload_n (pc' := 50) C 0 d_OL_lamp_49 rfl rfl ?_
      refine g_get (pc' := 53) C kf_OL 0 mw_2_44 d_OL_lamp_50 rfl 0 rfl (by decide) rfl ?_
      refine g_iload_n (pc' := 54) C 1 d_OL_lamp_53 rfl rfl ?_
      replace hf := g_bi hf; obtain ⟨r5, hc6, hf⟩ := hf
      refine g_callV (pc' := 57) (st1 := [.int r5]) (ws1 := [O_OL a_o a_o_wall a_o_imageOfWall x_o_imageIsKept a_o_rules a_o_tape a_o_costs a_o_thought a_o_acts a_o_shelves, O_Wa a_o_wall x_o_wall_lamps x_o_wall_picture x_o_wall_night x_o_wall_spent a_o_wall_had a_o_wall_told a_o_wall_last a_o_wall_often, A_I dA a_o_wall_last 10 x_o_wall_last, A_I dA a_o_wall_often 10 x_o_wall_often, O_Co a_o_costs a_o_costs_prices a_o_costs_lamps a_o_costs_before a_o_costs_after a_o_costs_sorted x_o_costs_done x_o_costs_undone, A_I dA a_o_costs_prices 10 x_o_costs_prices]) C (c_Wa_oftenOf (l := l) (D := D) (dA := dA) (a_o := a_o_wall) (a_o_had := a_o_wall_had) (a_o_told := a_o_wall_told) (a_o_last := a_o_wall_last) (a_o_often := a_o_wall_often) (x_o_picture := x_o_wall_picture) (x_o_night := x_o_wall_night) (x_o_spent := x_o_wall_spent)   hc6) yy_Wa_oftenOf kf_Wa rfl mw_3_36 d_OL_lamp_54 rfl [] rfl rfl (Nat.le_of_ble_eq_true rfl) ⟨Nat.le_of_ble_eq_true rfl, Nat.le_of_ble_eq_true rfl⟩ rfl rfl (Nat.zero_le _) (Nat.zero_le _) 1 rfl [1, 3] rfl (by decide +kernel) rfl (g_lay_sel _ _ _ _ [(0, false), (0, true), (2, false), (1, true), (4, false), (5, false)] (by decide +kernel) rfl (by decide +kernel) rfl rfl) rfl ?_
      replace hf := Option.some.inj hf; subst hf
      exact g_iret C d_OL_lamp_57 () rfl
    replace hf := g_in q1 hf
    by_cases q2 : p2 = 2
    · replace hf := g_ip q2 hf
      have e : (p2 : Int32).toInt = 2 := by rw [q2]; rfl
      refine g_tableIn (off := 44) (tgt := 58) C d_OL_lamp_14 (by rw [e]; decide) (by rw [e]; decide) (by rw [e]; rfl) rfl ?_
      refine g_aload_n (pc' := 59) C 0 d_OL_lamp_58 rfl rfl ?_
      refine g_get (pc' := 62) C kf_OL 0 mw_2_44 d_OL_lamp_59 rfl 0 rfl (by decide) rfl ?_
      refine g_iload_n (pc' := 63) C 1 d_OL_lamp_62 rfl rfl ?_
      replace hf := g_bi hf; obtain ⟨r7, hc8, hf⟩ := hf
      refine g_callV (pc' := 66) (st1 := [.int r7]) (ws1 := [O_OL a_o a_o_wall a_o_imageOfWall x_o_imageIsKept a_o_rules a_o_tape a_o_costs a_o_thought a_o_acts a_o_shelves, O_Wa a_o_wall x_o_wall_lamps x_o_wall_picture x_o_wall_night x_o_wall_spent a_o_wall_had a_o_wall_told a_o_wall_last a_o_wall_often, A_I dA a_o_wall_last 10 x_o_wall_last, A_I dA a_o_wall_often 10 x_o_wall_often, O_Co a_o_costs a_o_costs_prices a_o_costs_lamps a_o_costs_before a_o_costs_after a_o_costs_sorted x_o_costs_done x_o_costs_undone, A_I dA a_o_costs_prices 10 x_o_costs_prices]) C (c_Wa_lastOf (l := l) (D := D) (dA := dA) (a_o := a_o_wall) (a_o_had := a_o_wall_had) (a_o_told := a_o_wall_told) (a_o_last := a_o_wall_last) (a_o_often := a_o_wall_often) (x_o_picture := x_o_wall_picture) (x_o_night := x_o_wall_night) (x_o_spent := x_o_wall_spent)   hc8) yy_Wa_lastOf kf_Wa rfl mw_3_41 d_OL_lamp_63 rfl [] rfl rfl (Nat.le_of_ble_eq_true rfl) ⟨Nat.le_of_ble_eq_true rfl, Nat.le_of_ble_eq_true rfl⟩ rfl rfl (Nat.zero_le _) (Nat.zero_le _) 1 rfl [1, 2] rfl (by decide +kernel) rfl (g_lay_sel _ _ _ _ [(0, false), (0, true), (1, true), (3, false), (4, false), (5, false)] (by decide +kernel) rfl (by decide +kernel) rfl rfl) rfl ?_
      replace hf := Option.some.inj hf; subst hf
      exact g_iret C d_OL_lamp_66 () rfl
    replace hf := g_in q2 hf
    refine g_tableOut (tgt := 67) C d_OL_lamp_14 (by have e0 := lv_neT q0 (show (0 : Int32).toInt = 0 from rfl); have e1 := lv_neT q1 (show (1 : Int32).toInt = 1 from rfl); have e2 := lv_neT q2 (show (2 : Int32).toInt = 2 from rfl); omega) rfl ?_
    refine g_iconst (pc' := 68) (v := (-1)) C d_OL_lamp_67 rfl rfl ?_
    replace hf := Option.some.inj hf; subst hf
    exact g_iret C d_OL_lamp_68 () rfl
  · replace hf := g_bf h hf
    refine g_iconst (pc' := 12) (v := (-1)) C d_OL_lamp_11 rfl rfl ?_
    replace hf := Option.some.inj hf; subst hf
    exact g_iret C d_OL_lamp_12 () rfl
def y_OL_may : MethodName := ⟨"OneLamp", "may", "()I"⟩
theorem yy_OL_may : YV y_OL_may prog_1_method_13_code 3 (some .int) 0 := ⟨mw_3_48, mw_1_1, mw_3_46, mw_3_47, by decide +kernel, by decide +kernel, by decide +kernel⟩
theorem d_OL_may_0 : decode prog_1_method_13_code 0 = .ok (.iconst 0, 1) := by decide +kernel
theorem d_OL_may_1 : decode prog_1_method_13_code 1 = .ok (.istore_n 1, 1) := by decide +kernel
theorem d_OL_may_2 : decode prog_1_method_13_code 2 = .ok (.iconst 0, 1) := by decide +kernel
theorem d_OL_may_3 : decode prog_1_method_13_code 3 = .ok (.istore_n 2, 1) := by decide +kernel
theorem d_OL_may_4 : decode prog_1_method_13_code 4 = .ok (.iload_n 2, 1) := by decide +kernel
theorem d_OL_may_5 : decode prog_1_method_13_code 5 = .ok (.aload_n 0, 1) := by decide +kernel
theorem d_OL_may_6 : decode prog_1_method_13_code 6 = .ok (.getfield 10, 3) := by decide +kernel
theorem d_OL_may_9 : decode prog_1_method_13_code 9 = .ok (.getfield 61, 3) := by decide +kernel
theorem d_OL_may_12 : decode prog_1_method_13_code 12 = .ok (.if_icmp .ge 30, 3) := by decide +kernel
theorem d_OL_may_15 : decode prog_1_method_13_code 15 = .ok (.aload_n 0, 1) := by decide +kernel
theorem d_OL_may_16 : decode prog_1_method_13_code 16 = .ok (.getfield 22, 3) := by decide +kernel
theorem d_OL_may_19 : decode prog_1_method_13_code 19 = .ok (.aload_n 0, 1) := by decide +kernel
theorem d_OL_may_20 : decode prog_1_method_13_code 20 = .ok (.getfield 10, 3) := by decide +kernel
theorem d_OL_may_23 : decode prog_1_method_13_code 23 = .ok (.iload_n 2, 1) := by decide +kernel
theorem d_OL_may_24 : decode prog_1_method_13_code 24 = .ok (.invokevirtual 170, 3) := by decide +kernel
theorem d_OL_may_27 : decode prog_1_method_13_code 27 = .ok (.ifCond .eq 9, 3) := by decide +kernel
theorem d_OL_may_30 : decode prog_1_method_13_code 30 = .ok (.iload_n 1, 1) := by decide +kernel
theorem d_OL_may_31 : decode prog_1_method_13_code 31 = .ok (.iconst 1, 1) := by decide +kernel
theorem d_OL_may_32 : decode prog_1_method_13_code 32 = .ok (.iload_n 2, 1) := by decide +kernel
theorem d_OL_may_33 : decode prog_1_method_13_code 33 = .ok (.ishl, 1) := by decide +kernel
theorem d_OL_may_34 : decode prog_1_method_13_code 34 = .ok (.ior, 1) := by decide +kernel
theorem d_OL_may_35 : decode prog_1_method_13_code 35 = .ok (.istore_n 1, 1) := by decide +kernel
theorem d_OL_may_36 : decode prog_1_method_13_code 36 = .ok (.iinc 2 1, 3) := by decide +kernel
theorem d_OL_may_39 : decode prog_1_method_13_code 39 = .ok (.goto (-35), 3) := by decide +kernel
theorem d_OL_may_42 : decode prog_1_method_13_code 42 = .ok (.iload_n 1, 1) := by decide +kernel
theorem d_OL_may_43 : decode prog_1_method_13_code 43 = .ok (.ireturn, 1) := by decide +kernel
def f_OL_may_L36  (k4 : Int32 → Int32 → Int32 → Int32 → Int32 → (Nat → Int32) → Int32 → Int32 → Int32 → (Nat → Int64) → (Nat → Int64) → (Nat → Int64) → Int32 → Int32 → (Nat → Int32) → (Nat → Int32) → (Nat → Int64) → Option (Int32 × Int32 × (Nat → Int64) × (Nat → Int64) × Int32 × (Nat → Int32))) (v1 : Int32) (v2 : Int32) (x_o_wall_lamps : Int32) (x_o_wall_picture : Int32) (x_o_wall_night : Int32) (x_o_wall_last : Nat → Int32) (x_o_rules_rest : Int32) (x_o_rules_shy : Int32) (x_o_rules_askedForLamps : Int32) (x_o_wall_had_words : Nat → Int64) (x_o_rules_asked_words : Nat → Int64) (x_o_rules_forbidden_words : Nat → Int64) (x_o_rules_law_length : Int32) (x_o_rules_law_top : Int32) (x_o_rules_law_code : Nat → Int32) (x_o_rules_law_stack : Nat → Int32) (x_o_wall_told_words : Nat → Int64) : Option (Int32 × Int32 × (Nat → Int64) × (Nat → Int64) × Int32 × (Nat → Int32)) :=
  k4 v1 (v2 + 1) x_o_wall_lamps x_o_wall_picture x_o_wall_night x_o_wall_last x_o_rules_rest x_o_rules_shy x_o_rules_askedForLamps x_o_wall_had_words x_o_rules_asked_words x_o_rules_forbidden_words x_o_rules_law_length x_o_rules_law_top x_o_rules_law_code x_o_rules_law_stack x_o_wall_told_words
set_option maxRecDepth 20000 in
theorem w_OL_may_L36 {p : Program} {l : Launch} {e : Env} {s : State} {m : MethodId} {args : Array Value} {below : List Frame} {meth : Method} {c : Code} {D : va_G} {dA : Nat → ClassId} {A : Nat → Prop} (C : GC p s m args meth c prog_1_method_13_code 3 "OneLamp" (some .int) D dA A) {a_o a_o_wall a_o_imageOfWall a_o_rules a_o_tape a_o_costs a_o_thought a_o_acts a_o_shelves a_o_wall_had a_o_wall_told a_o_wall_last a_o_wall_often a_o_rules_law a_o_rules_asked a_o_rules_forbidden a_o_wall_had_words a_o_rules_asked_words a_o_rules_forbidden_words a_o_rules_law_code a_o_rules_law_stack a_o_wall_told_words : Nat} {x_o_imageIsKept : Bool} {x_o_wall_spent : Int32} {r0 : Int32} {o_x_o_rules_askedForLamps : Int32} {o_x_o_rules_asked_words : Nat → Int64} {o_x_o_rules_forbidden_words : Nat → Int64} {o_x_o_rules_law_top : Int32} {o_x_o_rules_law_stack : Nat → Int32}   (k4 : Int32 → Int32 → Int32 → Int32 → Int32 → (Nat → Int32) → Int32 → Int32 → Int32 → (Nat → Int64) → (Nat → Int64) → (Nat → Int64) → Int32 → Int32 → (Nat → Int32) → (Nat → Int32) → (Nat → Int64) → Option (Int32 × Int32 × (Nat → Int64) × (Nat → Int64) × Int32 × (Nat → Int32))) (hk4 : ∀ (v1 : Int32) (v2 : Int32) (x_o_wall_lamps : Int32) (x_o_wall_picture : Int32) (x_o_wall_night : Int32) (x_o_wall_last : Nat → Int32) (x_o_rules_rest : Int32) (x_o_rules_shy : Int32) (x_o_rules_askedForLamps : Int32) (x_o_wall_had_words : Nat → Int64) (x_o_rules_asked_words : Nat → Int64) (x_o_rules_forbidden_words : Nat → Int64) (x_o_rules_law_length : Int32) (x_o_rules_law_top : Int32) (x_o_rules_law_code : Nat → Int32) (x_o_rules_law_stack : Nat → Int32) (x_o_wall_told_words : Nat → Int64), k4 v1 v2 x_o_wall_lamps x_o_wall_picture x_o_wall_night x_o_wall_last x_o_rules_rest x_o_rules_shy x_o_rules_askedForLamps x_o_wall_had_words x_o_rules_asked_words x_o_rules_forbidden_words x_o_rules_law_length x_o_rules_law_top x_o_rules_law_code x_o_rules_law_stack x_o_wall_told_words = some (r0, o_x_o_rules_askedForLamps, o_x_o_rules_asked_words, o_x_o_rules_forbidden_words, o_x_o_rules_law_top, o_x_o_rules_law_stack) → GG p l e { frames := 5, cells := 0, slots := 0, locals := 115 } s m args below meth c 3 D A 0 0 (MQ below (cQ D A (some (.int r0)) (fun _ : Unit => [O_OL a_o a_o_wall a_o_imageOfWall x_o_imageIsKept a_o_rules a_o_tape a_o_costs a_o_thought a_o_acts a_o_shelves, O_Wa a_o_wall x_o_wall_lamps x_o_wall_picture x_o_wall_night x_o_wall_spent a_o_wall_had a_o_wall_told a_o_wall_last a_o_wall_often, A_I dA a_o_wall_last 10 x_o_wall_last, O_Ru a_o_rules x_o_rules_rest x_o_rules_shy a_o_rules_law a_o_rules_asked a_o_rules_forbidden o_x_o_rules_askedForLamps, O_Pi a_o_wall_had a_o_wall_had_words, A_J dA a_o_wall_had_words 16 x_o_wall_had_words, O_Pi a_o_rules_asked a_o_rules_asked_words, A_J dA a_o_rules_asked_words 16 o_x_o_rules_asked_words, O_Pi a_o_rules_forbidden a_o_rules_forbidden_words, A_J dA a_o_rules_forbidden_words 16 o_x_o_rules_forbidden_words, O_La a_o_rules_law a_o_rules_law_code x_o_rules_law_length a_o_rules_law_stack o_x_o_rules_law_top, A_I dA a_o_rules_law_code 256 x_o_rules_law_code, A_I dA a_o_rules_law_stack 256 o_x_o_rules_law_stack, O_Pi a_o_wall_told a_o_wall_told_words, A_J dA a_o_wall_told_words 16 x_o_wall_told_words])) args s 0 0 A) 4 [(0, .ref a_o), (1, .int v1), (2, .int v2)] [] [O_OL a_o a_o_wall a_o_imageOfWall x_o_imageIsKept a_o_rules a_o_tape a_o_costs a_o_thought a_o_acts a_o_shelves, O_Wa a_o_wall x_o_wall_lamps x_o_wall_picture x_o_wall_night x_o_wall_spent a_o_wall_had a_o_wall_told a_o_wall_last a_o_wall_often, A_I dA a_o_wall_last 10 x_o_wall_last, O_Ru a_o_rules x_o_rules_rest x_o_rules_shy a_o_rules_law a_o_rules_asked a_o_rules_forbidden x_o_rules_askedForLamps, O_Pi a_o_wall_had a_o_wall_had_words, A_J dA a_o_wall_had_words 16 x_o_wall_had_words, O_Pi a_o_rules_asked a_o_rules_asked_words, A_J dA a_o_rules_asked_words 16 x_o_rules_asked_words, O_Pi a_o_rules_forbidden a_o_rules_forbidden_words, A_J dA a_o_rules_forbidden_words 16 x_o_rules_forbidden_words, O_La a_o_rules_law a_o_rules_law_code x_o_rules_law_length a_o_rules_law_stack x_o_rules_law_top, A_I dA a_o_rules_law_code 256 x_o_rules_law_code, A_I dA a_o_rules_law_stack 256 x_o_rules_law_stack, O_Pi a_o_wall_told a_o_wall_told_words, A_J dA a_o_wall_told_words 16 x_o_wall_told_words]) (v1 : Int32) (v2 : Int32) (x_o_wall_lamps : Int32) (x_o_wall_picture : Int32) (x_o_wall_night : Int32) (x_o_wall_last : Nat → Int32) (x_o_rules_rest : Int32) (x_o_rules_shy : Int32) (x_o_rules_askedForLamps : Int32) (x_o_wall_had_words : Nat → Int64) (x_o_rules_asked_words : Nat → Int64) (x_o_rules_forbidden_words : Nat → Int64) (x_o_rules_law_length : Int32) (x_o_rules_law_top : Int32) (x_o_rules_law_code : Nat → Int32) (x_o_rules_law_stack : Nat → Int32) (x_o_wall_told_words : Nat → Int64) (hf : f_OL_may_L36  k4 v1 v2 x_o_wall_lamps x_o_wall_picture x_o_wall_night x_o_wall_last x_o_rules_rest x_o_rules_shy x_o_rules_askedForLamps x_o_wall_had_words x_o_rules_asked_words x_o_rules_forbidden_words x_o_rules_law_length x_o_rules_law_top x_o_rules_law_code x_o_rules_law_stack x_o_wall_told_words = some (r0, o_x_o_rules_askedForLamps, o_x_o_rules_asked_words, o_x_o_rules_forbidden_words, o_x_o_rules_law_top, o_x_o_rules_law_stack)) : GG p l e { frames := 5, cells := 0, slots := 0, locals := 115 } s m args below meth c 3 D A 0 0 (MQ below (cQ D A (some (.int r0)) (fun _ : Unit => [O_OL a_o a_o_wall a_o_imageOfWall x_o_imageIsKept a_o_rules a_o_tape a_o_costs a_o_thought a_o_acts a_o_shelves, O_Wa a_o_wall x_o_wall_lamps x_o_wall_picture x_o_wall_night x_o_wall_spent a_o_wall_had a_o_wall_told a_o_wall_last a_o_wall_often, A_I dA a_o_wall_last 10 x_o_wall_last, O_Ru a_o_rules x_o_rules_rest x_o_rules_shy a_o_rules_law a_o_rules_asked a_o_rules_forbidden o_x_o_rules_askedForLamps, O_Pi a_o_wall_had a_o_wall_had_words, A_J dA a_o_wall_had_words 16 x_o_wall_had_words, O_Pi a_o_rules_asked a_o_rules_asked_words, A_J dA a_o_rules_asked_words 16 o_x_o_rules_asked_words, O_Pi a_o_rules_forbidden a_o_rules_forbidden_words, A_J dA a_o_rules_forbidden_words 16 o_x_o_rules_forbidden_words, O_La a_o_rules_law a_o_rules_law_code x_o_rules_law_length a_o_rules_law_stack o_x_o_rules_law_top, A_I dA a_o_rules_law_code 256 x_o_rules_law_code, A_I dA a_o_rules_law_stack 256 o_x_o_rules_law_stack, O_Pi a_o_wall_told a_o_wall_told_words, A_J dA a_o_wall_told_words 16 x_o_wall_told_words])) args s 0 0 A) 36 [(0, .ref a_o), (1, .int v1), (2, .int v2)] [] [O_OL a_o a_o_wall a_o_imageOfWall x_o_imageIsKept a_o_rules a_o_tape a_o_costs a_o_thought a_o_acts a_o_shelves, O_Wa a_o_wall x_o_wall_lamps x_o_wall_picture x_o_wall_night x_o_wall_spent a_o_wall_had a_o_wall_told a_o_wall_last a_o_wall_often, A_I dA a_o_wall_last 10 x_o_wall_last, O_Ru a_o_rules x_o_rules_rest x_o_rules_shy a_o_rules_law a_o_rules_asked a_o_rules_forbidden x_o_rules_askedForLamps, O_Pi a_o_wall_had a_o_wall_had_words, A_J dA a_o_wall_had_words 16 x_o_wall_had_words, O_Pi a_o_rules_asked a_o_rules_asked_words, A_J dA a_o_rules_asked_words 16 x_o_rules_asked_words, O_Pi a_o_rules_forbidden a_o_rules_forbidden_words, A_J dA a_o_rules_forbidden_words 16 x_o_rules_forbidden_words, O_La a_o_rules_law a_o_rules_law_code x_o_rules_law_length a_o_rules_law_stack x_o_rules_law_top, A_I dA a_o_rules_law_code 256 x_o_rules_law_code, A_I dA a_o_rules_law_stack 256 x_o_rules_law_stack, O_Pi a_o_wall_told a_o_wall_told_words, A_J dA a_o_wall_told_words 16 x_o_wall_told_words] := by
  unfold f_OL_may_L36 at hf
  refine g_iinc (pc' := 39) (j := 2) (v := (v2 + 1)) (lv' := [(2, .int (v2 + 1)), (0, .ref a_o), (1, .int v1)]) C d_OL_may_36 rfl rfl rfl (by decide) rfl ?_
  refine g_goto (tgt := 4) C d_OL_may_39 rfl ?_
  refine g_lv (lv' := [(0, .ref a_o), (1, .int v1), (2, .int (v2 + 1))]) [1, 2, 0] rfl ?_
  exact hk4 v1 (v2 + 1) x_o_wall_lamps x_o_wall_picture x_o_wall_night x_o_wall_last x_o_rules_rest x_o_rules_shy x_o_rules_askedForLamps x_o_wall_had_words x_o_rules_asked_words x_o_rules_forbidden_words x_o_rules_law_length x_o_rules_law_top x_o_rules_law_code x_o_rules_law_stack x_o_wall_told_words hf
def f_OL_may_L4   : Nat → Int32 → Int32 → Int32 → Int32 → Int32 → (Nat → Int32) → Int32 → Int32 → Int32 → (Nat → Int64) → (Nat → Int64) → (Nat → Int64) → Int32 → Int32 → (Nat → Int32) → (Nat → Int32) → (Nat → Int64) → Option (Int32 × Int32 × (Nat → Int64) × (Nat → Int64) × Int32 × (Nat → Int32))
  | 0, _, _, _, _, _, _, _, _, _, _, _, _, _, _, _, _, _ => none
  | n + 1, v1, v2, x_o_wall_lamps, x_o_wall_picture, x_o_wall_night, x_o_wall_last, x_o_rules_rest, x_o_rules_shy, x_o_rules_askedForLamps, x_o_wall_had_words, x_o_rules_asked_words, x_o_rules_forbidden_words, x_o_rules_law_length, x_o_rules_law_top, x_o_rules_law_code, x_o_rules_law_stack, x_o_wall_told_words =>
    if x_o_wall_lamps ≤ v2 then
      (some (v1, x_o_rules_askedForLamps, x_o_rules_asked_words, x_o_rules_forbidden_words, x_o_rules_law_top, x_o_rules_law_stack))
    else
      ((f_Ru_allow  v2 x_o_wall_lamps x_o_wall_picture x_o_wall_night x_o_wall_last x_o_rules_rest x_o_rules_shy x_o_rules_askedForLamps x_o_wall_had_words x_o_rules_asked_words x_o_rules_forbidden_words x_o_rules_law_length x_o_rules_law_top x_o_rules_law_code x_o_rules_law_stack x_o_wall_told_words).bind fun (r1, u2, u3, u4, u5, u6) =>
      if r1 = true then
        (f_OL_may_L36 (f_OL_may_L4  n) (v1 ||| ((1 : Int32) <<< (v2 &&& 31))) v2 x_o_wall_lamps x_o_wall_picture x_o_wall_night x_o_wall_last x_o_rules_rest x_o_rules_shy u2 x_o_wall_had_words u3 u4 x_o_rules_law_length u5 x_o_rules_law_code u6 x_o_wall_told_words)
      else
        (f_OL_may_L36 (f_OL_may_L4  n) v1 v2 x_o_wall_lamps x_o_wall_picture x_o_wall_night x_o_wall_last x_o_rules_rest x_o_rules_shy u2 x_o_wall_had_words u3 u4 x_o_rules_law_length u5 x_o_rules_law_code u6 x_o_wall_told_words))
set_option maxRecDepth 20000 in
theorem w_OL_may_L4 {p : Program} {l : Launch} {e : Env} {s : State} {m : MethodId} {args : Array Value} {below : List Frame} {meth : Method} {c : Code} {D : va_G} {dA : Nat → ClassId} {A : Nat → Prop} (C : GC p s m args meth c prog_1_method_13_code 3 "OneLamp" (some .int) D dA A) {a_o a_o_wall a_o_imageOfWall a_o_rules a_o_tape a_o_costs a_o_thought a_o_acts a_o_shelves a_o_wall_had a_o_wall_told a_o_wall_last a_o_wall_often a_o_rules_law a_o_rules_asked a_o_rules_forbidden a_o_wall_had_words a_o_rules_asked_words a_o_rules_forbidden_words a_o_rules_law_code a_o_rules_law_stack a_o_wall_told_words : Nat} {x_o_imageIsKept : Bool} {x_o_wall_spent : Int32} {r0 : Int32} {o_x_o_rules_askedForLamps : Int32} {o_x_o_rules_asked_words : Nat → Int64} {o_x_o_rules_forbidden_words : Nat → Int64} {o_x_o_rules_law_top : Int32} {o_x_o_rules_law_stack : Nat → Int32}    : ∀ (n : Nat) (v1 : Int32) (v2 : Int32) (x_o_wall_lamps : Int32) (x_o_wall_picture : Int32) (x_o_wall_night : Int32) (x_o_wall_last : Nat → Int32) (x_o_rules_rest : Int32) (x_o_rules_shy : Int32) (x_o_rules_askedForLamps : Int32) (x_o_wall_had_words : Nat → Int64) (x_o_rules_asked_words : Nat → Int64) (x_o_rules_forbidden_words : Nat → Int64) (x_o_rules_law_length : Int32) (x_o_rules_law_top : Int32) (x_o_rules_law_code : Nat → Int32) (x_o_rules_law_stack : Nat → Int32) (x_o_wall_told_words : Nat → Int64), f_OL_may_L4   n v1 v2 x_o_wall_lamps x_o_wall_picture x_o_wall_night x_o_wall_last x_o_rules_rest x_o_rules_shy x_o_rules_askedForLamps x_o_wall_had_words x_o_rules_asked_words x_o_rules_forbidden_words x_o_rules_law_length x_o_rules_law_top x_o_rules_law_code x_o_rules_law_stack x_o_wall_told_words = some (r0, o_x_o_rules_askedForLamps, o_x_o_rules_asked_words, o_x_o_rules_forbidden_words, o_x_o_rules_law_top, o_x_o_rules_law_stack) → GG p l e { frames := 5, cells := 0, slots := 0, locals := 115 } s m args below meth c 3 D A 0 0 (MQ below (cQ D A (some (.int r0)) (fun _ : Unit => [O_OL a_o a_o_wall a_o_imageOfWall x_o_imageIsKept a_o_rules a_o_tape a_o_costs a_o_thought a_o_acts a_o_shelves, O_Wa a_o_wall x_o_wall_lamps x_o_wall_picture x_o_wall_night x_o_wall_spent a_o_wall_had a_o_wall_told a_o_wall_last a_o_wall_often, A_I dA a_o_wall_last 10 x_o_wall_last, O_Ru a_o_rules x_o_rules_rest x_o_rules_shy a_o_rules_law a_o_rules_asked a_o_rules_forbidden o_x_o_rules_askedForLamps, O_Pi a_o_wall_had a_o_wall_had_words, A_J dA a_o_wall_had_words 16 x_o_wall_had_words, O_Pi a_o_rules_asked a_o_rules_asked_words, A_J dA a_o_rules_asked_words 16 o_x_o_rules_asked_words, O_Pi a_o_rules_forbidden a_o_rules_forbidden_words, A_J dA a_o_rules_forbidden_words 16 o_x_o_rules_forbidden_words, O_La a_o_rules_law a_o_rules_law_code x_o_rules_law_length a_o_rules_law_stack o_x_o_rules_law_top, A_I dA a_o_rules_law_code 256 x_o_rules_law_code, A_I dA a_o_rules_law_stack 256 o_x_o_rules_law_stack, O_Pi a_o_wall_told a_o_wall_told_words, A_J dA a_o_wall_told_words 16 x_o_wall_told_words])) args s 0 0 A) 4 [(0, .ref a_o), (1, .int v1), (2, .int v2)] [] [O_OL a_o a_o_wall a_o_imageOfWall x_o_imageIsKept a_o_rules a_o_tape a_o_costs a_o_thought a_o_acts a_o_shelves, O_Wa a_o_wall x_o_wall_lamps x_o_wall_picture x_o_wall_night x_o_wall_spent a_o_wall_had a_o_wall_told a_o_wall_last a_o_wall_often, A_I dA a_o_wall_last 10 x_o_wall_last, O_Ru a_o_rules x_o_rules_rest x_o_rules_shy a_o_rules_law a_o_rules_asked a_o_rules_forbidden x_o_rules_askedForLamps, O_Pi a_o_wall_had a_o_wall_had_words, A_J dA a_o_wall_had_words 16 x_o_wall_had_words, O_Pi a_o_rules_asked a_o_rules_asked_words, A_J dA a_o_rules_asked_words 16 x_o_rules_asked_words, O_Pi a_o_rules_forbidden a_o_rules_forbidden_words, A_J dA a_o_rules_forbidden_words 16 x_o_rules_forbidden_words, O_La a_o_rules_law a_o_rules_law_code x_o_rules_law_length a_o_rules_law_stack x_o_rules_law_top, A_I dA a_o_rules_law_code 256 x_o_rules_law_code, A_I dA a_o_rules_law_stack 256 x_o_rules_law_stack, O_Pi a_o_wall_told a_o_wall_told_words, A_J dA a_o_wall_told_words 16 x_o_wall_told_words] := by
  intro n
  induction n with
  | zero =>
    intro v1 v2 x_o_wall_lamps x_o_wall_picture x_o_wall_night x_o_wall_last x_o_rules_rest x_o_rules_shy x_o_rules_askedForLamps x_o_wall_had_words x_o_rules_asked_words x_o_rules_forbidden_words x_o_rules_law_length x_o_rules_law_top x_o_rules_law_code x_o_rules_law_stack x_o_wall_told_words hf
    cases hf
  | succ n ih =>
    intro v1 v2 x_o_wall_lamps x_o_wall_picture x_o_wall_night x_o_wall_last x_o_rules_rest x_o_rules_shy x_o_rules_askedForLamps x_o_wall_had_words x_o_rules_asked_words x_o_rules_forbidden_words x_o_rules_law_length x_o_rules_law_top x_o_rules_law_code x_o_rules_law_stack x_o_wall_told_words hf
    unfold f_OL_may_L4 at hf
    refine g_iload_n (pc' := 5) C 2 d_OL_may_4 rfl rfl ?_
    refine g_aload_n (pc' := 6) C 0 d_OL_may_5 rfl rfl ?_
    refine g_get (pc' := 9) C kf_OL 0 mw_2_44 d_OL_may_6 rfl 0 rfl (by decide) rfl ?_
    refine g_get (pc' := 12) C kf_Wa 0 mw_1_64 d_OL_may_9 rfl 1 rfl (by decide) rfl ?_
    refine g_icmp_ge (pc' := 15) (tgt := 42) C d_OL_may_12 rfl rfl (fun h => ?_) (fun h => ?_)
    · replace hf := g_ip h hf
      refine g_iload_n (pc' := 43) C 1 d_OL_may_42 rfl rfl ?_
      replace hf := g_o2 hf; obtain ⟨h1, hf⟩ := hf; subst h1
      replace hf := g_o2 hf; obtain ⟨h1, hf⟩ := hf; subst h1
      replace hf := g_o2 hf; obtain ⟨h1, hf⟩ := hf; subst h1
      replace hf := g_o2 hf; obtain ⟨h1, hf⟩ := hf; subst h1
      replace hf := g_o2 hf; obtain ⟨h1, hf⟩ := hf; subst h1
      replace hf := Option.some.inj hf; subst hf
      exact g_iret C d_OL_may_43 () rfl
    · replace hf := g_in h hf
      refine g_aload_n (pc' := 16) C 0 d_OL_may_15 rfl rfl ?_
      refine g_get (pc' := 19) C kf_OL 3 mw_2_47 d_OL_may_16 rfl 0 rfl (by decide) rfl ?_
      refine g_aload_n (pc' := 20) C 0 d_OL_may_19 rfl rfl ?_
      refine g_get (pc' := 23) C kf_OL 0 mw_2_44 d_OL_may_20 rfl 0 rfl (by decide) rfl ?_
      refine g_iload_n (pc' := 24) C 2 d_OL_may_23 rfl rfl ?_
      replace hf := g_bi hf; obtain ⟨⟨r1, u2, u3, u4, u5, u6⟩, hc7, hf⟩ := hf
      dsimp only at hf
      refine g_callV (pc' := 27) (st1 := [.int (b2i r1)]) (ws1 := [O_OL a_o a_o_wall a_o_imageOfWall x_o_imageIsKept a_o_rules a_o_tape a_o_costs a_o_thought a_o_acts a_o_shelves, O_Wa a_o_wall x_o_wall_lamps x_o_wall_picture x_o_wall_night x_o_wall_spent a_o_wall_had a_o_wall_told a_o_wall_last a_o_wall_often, A_I dA a_o_wall_last 10 x_o_wall_last, O_Ru a_o_rules x_o_rules_rest x_o_rules_shy a_o_rules_law a_o_rules_asked a_o_rules_forbidden u2, O_Pi a_o_wall_had a_o_wall_had_words, A_J dA a_o_wall_had_words 16 x_o_wall_had_words, O_Pi a_o_rules_asked a_o_rules_asked_words, A_J dA a_o_rules_asked_words 16 u3, O_Pi a_o_rules_forbidden a_o_rules_forbidden_words, A_J dA a_o_rules_forbidden_words 16 u4, O_La a_o_rules_law a_o_rules_law_code x_o_rules_law_length a_o_rules_law_stack u5, A_I dA a_o_rules_law_code 256 x_o_rules_law_code, A_I dA a_o_rules_law_stack 256 u6, O_Pi a_o_wall_told a_o_wall_told_words, A_J dA a_o_wall_told_words 16 x_o_wall_told_words]) C (c_Ru_allow (l := l) (D := D) (dA := dA) (a_o := a_o_rules) (a_p1 := a_o_wall) (a_p1_had := a_o_wall_had) (a_p1_told := a_o_wall_told) (a_p1_last := a_o_wall_last) (a_p1_often := a_o_wall_often) (a_o_law := a_o_rules_law) (a_o_asked := a_o_rules_asked) (a_o_forbidden := a_o_rules_forbidden) (a_p1_had_words := a_o_wall_had_words) (a_o_asked_words := a_o_rules_asked_words) (a_o_forbidden_words := a_o_rules_forbidden_words) (a_o_law_code := a_o_rules_law_code) (a_o_law_stack := a_o_rules_law_stack) (a_p1_told_words := a_o_wall_told_words) (x_p1_spent := x_o_wall_spent)   hc7) yy_Ru_allow kf_Ru rfl mw_3_49 d_OL_may_24 rfl [] rfl rfl (Nat.le_of_ble_eq_true rfl) ⟨Nat.le_of_ble_eq_true rfl, Nat.le_of_ble_eq_true rfl⟩ rfl rfl (Nat.zero_le _) (Nat.zero_le _) 3 rfl [1, 2, 3, 4, 5, 6, 7, 8, 9, 10, 11, 12, 13, 14] rfl (by decide +kernel) rfl (g_lay_sel _ _ _ _ [(0, false), (0, true), (1, true), (2, true), (3, true), (4, true), (5, true), (6, true), (7, true), (8, true), (9, true), (10, true), (11, true), (12, true), (13, true)] (by decide +kernel) rfl (by decide +kernel) rfl rfl) rfl ?_
      refine g_if_eqb (pc' := 30) (tgt := 36) C d_OL_may_27 rfl rfl (fun h => ?_) (fun h => ?_)
      · replace hf := g_bf h hf
        exact w_OL_may_L36 (a_o := a_o) (a_o_wall := a_o_wall) (a_o_imageOfWall := a_o_imageOfWall) (a_o_rules := a_o_rules) (a_o_tape := a_o_tape) (a_o_costs := a_o_costs) (a_o_thought := a_o_thought) (a_o_acts := a_o_acts) (a_o_shelves := a_o_shelves) (a_o_wall_had := a_o_wall_had) (a_o_wall_told := a_o_wall_told) (a_o_wall_last := a_o_wall_last) (a_o_wall_often := a_o_wall_often) (a_o_rules_law := a_o_rules_law) (a_o_rules_asked := a_o_rules_asked) (a_o_rules_forbidden := a_o_rules_forbidden) (a_o_wall_had_words := a_o_wall_had_words) (a_o_rules_asked_words := a_o_rules_asked_words) (a_o_rules_forbidden_words := a_o_rules_forbidden_words) (a_o_rules_law_code := a_o_rules_law_code) (a_o_rules_law_stack := a_o_rules_law_stack) (a_o_wall_told_words := a_o_wall_told_words) C  (f_OL_may_L4  n) ih v1 v2 x_o_wall_lamps x_o_wall_picture x_o_wall_night x_o_wall_last x_o_rules_rest x_o_rules_shy u2 x_o_wall_had_words u3 u4 x_o_rules_law_length u5 x_o_rules_law_code u6 x_o_wall_told_words hf
      · replace hf := g_bt h hf
        refine g_iload_n (pc' := 31) C 1 d_OL_may_30 rfl rfl ?_
        refine g_iconst (pc' := 32) (v := 1) C d_OL_may_31 rfl rfl ?_
        refine g_iload_n (pc' := 33) C 2 d_OL_may_32 rfl rfl ?_
        refine g_ishl (pc' := 34) C d_OL_may_33 rfl ?_
        refine g_ior (pc' := 35) C d_OL_may_34 rfl ?_
        refine g_istore_n (pc' := 36) (lv' := [(1, .int (v1 ||| ((1 : Int32) <<< (v2 &&& 31)))), (0, .ref a_o), (2, .int v2)]) C d_OL_may_35 rfl (by decide) rfl ?_
        refine g_lv (lv' := [(0, .ref a_o), (1, .int (v1 ||| ((1 : Int32) <<< (v2 &&& 31)))), (2, .int v2)]) [1, 0, 2] rfl ?_
        exact w_OL_may_L36 (a_o := a_o) (a_o_wall := a_o_wall) (a_o_imageOfWall := a_o_imageOfWall) (a_o_rules := a_o_rules) (a_o_tape := a_o_tape) (a_o_costs := a_o_costs) (a_o_thought := a_o_thought) (a_o_acts := a_o_acts) (a_o_shelves := a_o_shelves) (a_o_wall_had := a_o_wall_had) (a_o_wall_told := a_o_wall_told) (a_o_wall_last := a_o_wall_last) (a_o_wall_often := a_o_wall_often) (a_o_rules_law := a_o_rules_law) (a_o_rules_asked := a_o_rules_asked) (a_o_rules_forbidden := a_o_rules_forbidden) (a_o_wall_had_words := a_o_wall_had_words) (a_o_rules_asked_words := a_o_rules_asked_words) (a_o_rules_forbidden_words := a_o_rules_forbidden_words) (a_o_rules_law_code := a_o_rules_law_code) (a_o_rules_law_stack := a_o_rules_law_stack) (a_o_wall_told_words := a_o_wall_told_words) C  (f_OL_may_L4  n) ih (v1 ||| ((1 : Int32) <<< (v2 &&& 31))) v2 x_o_wall_lamps x_o_wall_picture x_o_wall_night x_o_wall_last x_o_rules_rest x_o_rules_shy u2 x_o_wall_had_words u3 u4 x_o_rules_law_length u5 x_o_rules_law_code u6 x_o_wall_told_words hf
def f_OL_may  (x_o_wall_lamps : Int32) (x_o_wall_picture : Int32) (x_o_wall_night : Int32) (x_o_wall_last : Nat → Int32) (x_o_rules_rest : Int32) (x_o_rules_shy : Int32) (x_o_rules_askedForLamps : Int32) (x_o_wall_had_words : Nat → Int64) (x_o_rules_asked_words : Nat → Int64) (x_o_rules_forbidden_words : Nat → Int64) (x_o_rules_law_length : Int32) (x_o_rules_law_top : Int32) (x_o_rules_law_code : Nat → Int32) (x_o_rules_law_stack : Nat → Int32) (x_o_wall_told_words : Nat → Int64) : Option (Int32 × Int32 × (Nat → Int64) × (Nat → Int64) × Int32 × (Nat → Int32)) :=
  f_OL_may_L4  3000 (0 : Int32) (0 : Int32) x_o_wall_lamps x_o_wall_picture x_o_wall_night x_o_wall_last x_o_rules_rest x_o_rules_shy x_o_rules_askedForLamps x_o_wall_had_words x_o_rules_asked_words x_o_rules_forbidden_words x_o_rules_law_length x_o_rules_law_top x_o_rules_law_code x_o_rules_law_stack x_o_wall_told_words
set_option maxRecDepth 20000 in
theorem c_OL_may {l : Launch} {D : va_G} {dA : Nat → ClassId} {a_o a_o_wall a_o_imageOfWall a_o_rules a_o_tape a_o_costs a_o_thought a_o_acts a_o_shelves a_o_wall_had a_o_wall_told a_o_wall_last a_o_wall_often a_o_rules_law a_o_rules_asked a_o_rules_forbidden a_o_wall_had_words a_o_rules_asked_words a_o_rules_forbidden_words a_o_rules_law_code a_o_rules_law_stack a_o_wall_told_words : Nat} {x_o_imageIsKept : Bool} {x_o_wall_spent : Int32} {x_o_wall_lamps : Int32} {x_o_wall_picture : Int32} {x_o_wall_night : Int32} {x_o_wall_last : Nat → Int32} {x_o_rules_rest : Int32} {x_o_rules_shy : Int32} {x_o_rules_askedForLamps : Int32} {x_o_wall_had_words : Nat → Int64} {x_o_rules_asked_words : Nat → Int64} {x_o_rules_forbidden_words : Nat → Int64} {x_o_rules_law_length : Int32} {x_o_rules_law_top : Int32} {x_o_rules_law_code : Nat → Int32} {x_o_rules_law_stack : Nat → Int32} {x_o_wall_told_words : Nat → Int64} {r0 : Int32} {o_x_o_rules_askedForLamps : Int32} {o_x_o_rules_asked_words : Nat → Int64} {o_x_o_rules_forbidden_words : Nat → Int64} {o_x_o_rules_law_top : Int32} {o_x_o_rules_law_stack : Nat → Int32}   (hf : f_OL_may  x_o_wall_lamps x_o_wall_picture x_o_wall_night x_o_wall_last x_o_rules_rest x_o_rules_shy x_o_rules_askedForLamps x_o_wall_had_words x_o_rules_asked_words x_o_rules_forbidden_words x_o_rules_law_length x_o_rules_law_top x_o_rules_law_code x_o_rules_law_stack x_o_wall_told_words = some (r0, o_x_o_rules_askedForLamps, o_x_o_rules_asked_words, o_x_o_rules_forbidden_words, o_x_o_rules_law_top, o_x_o_rules_law_stack)) : CT l y_OL_may prog_1_method_13_code 3 (some .int) { frames := 5, cells := 0, slots := 0, locals := 115 } D dA [.ref a_o] [O_OL a_o a_o_wall a_o_imageOfWall x_o_imageIsKept a_o_rules a_o_tape a_o_costs a_o_thought a_o_acts a_o_shelves, O_Wa a_o_wall x_o_wall_lamps x_o_wall_picture x_o_wall_night x_o_wall_spent a_o_wall_had a_o_wall_told a_o_wall_last a_o_wall_often, A_I dA a_o_wall_last 10 x_o_wall_last, O_Ru a_o_rules x_o_rules_rest x_o_rules_shy a_o_rules_law a_o_rules_asked a_o_rules_forbidden x_o_rules_askedForLamps, O_Pi a_o_wall_had a_o_wall_had_words, A_J dA a_o_wall_had_words 16 x_o_wall_had_words, O_Pi a_o_rules_asked a_o_rules_asked_words, A_J dA a_o_rules_asked_words 16 x_o_rules_asked_words, O_Pi a_o_rules_forbidden a_o_rules_forbidden_words, A_J dA a_o_rules_forbidden_words 16 x_o_rules_forbidden_words, O_La a_o_rules_law a_o_rules_law_code x_o_rules_law_length a_o_rules_law_stack x_o_rules_law_top, A_I dA a_o_rules_law_code 256 x_o_rules_law_code, A_I dA a_o_rules_law_stack 256 x_o_rules_law_stack, O_Pi a_o_wall_told a_o_wall_told_words, A_J dA a_o_wall_told_words 16 x_o_wall_told_words] (some (.int r0)) (fun _ : Unit => [O_OL a_o a_o_wall a_o_imageOfWall x_o_imageIsKept a_o_rules a_o_tape a_o_costs a_o_thought a_o_acts a_o_shelves, O_Wa a_o_wall x_o_wall_lamps x_o_wall_picture x_o_wall_night x_o_wall_spent a_o_wall_had a_o_wall_told a_o_wall_last a_o_wall_often, A_I dA a_o_wall_last 10 x_o_wall_last, O_Ru a_o_rules x_o_rules_rest x_o_rules_shy a_o_rules_law a_o_rules_asked a_o_rules_forbidden o_x_o_rules_askedForLamps, O_Pi a_o_wall_had a_o_wall_had_words, A_J dA a_o_wall_had_words 16 x_o_wall_had_words, O_Pi a_o_rules_asked a_o_rules_asked_words, A_J dA a_o_rules_asked_words 16 o_x_o_rules_asked_words, O_Pi a_o_rules_forbidden a_o_rules_forbidden_words, A_J dA a_o_rules_forbidden_words 16 o_x_o_rules_forbidden_words, O_La a_o_rules_law a_o_rules_law_code x_o_rules_law_length a_o_rules_law_stack o_x_o_rules_law_top, A_I dA a_o_rules_law_code 256 x_o_rules_law_code, A_I dA a_o_rules_law_stack 256 o_x_o_rules_law_stack, O_Pi a_o_wall_told a_o_wall_told_words, A_J dA a_o_wall_told_words 16 x_o_wall_told_words]) := by
  refine ct_intro "OneLamp" rfl (by decide +kernel) (Nat.le_of_ble_eq_true rfl) [(0, .ref a_o)] rfl (fun _ C => ?_)
  unfold f_OL_may at hf
  refine g_iconst (pc' := 1) (v := 0) C d_OL_may_0 rfl rfl ?_
  refine g_istore_n (pc' := 2) (lv' := [(1, .int 0), (0, .ref a_o)]) C d_OL_may_1 rfl (by decide) rfl ?_
  refine g_iconst (pc' := 3) (v := 0) C d_OL_may_2 rfl rfl ?_
  refine g_istore_n (pc' := 4) (lv' := [(2, .int 0), (1, .int 0), (0, .ref a_o)]) C d_OL_may_3 rfl (by decide) rfl ?_
  refine g_lv (lv' := [(0, .ref a_o), (1, .int (0 : Int32)), (2, .int (0 : Int32))]) [2, 1, 0] rfl ?_
  exact w_OL_may_L4 (a_o := a_o) (a_o_wall := a_o_wall) (a_o_imageOfWall := a_o_imageOfWall) (a_o_rules := a_o_rules) (a_o_tape := a_o_tape) (a_o_costs := a_o_costs) (a_o_thought := a_o_thought) (a_o_acts := a_o_acts) (a_o_shelves := a_o_shelves) (a_o_wall_had := a_o_wall_had) (a_o_wall_told := a_o_wall_told) (a_o_wall_last := a_o_wall_last) (a_o_wall_often := a_o_wall_often) (a_o_rules_law := a_o_rules_law) (a_o_rules_asked := a_o_rules_asked) (a_o_rules_forbidden := a_o_rules_forbidden) (a_o_wall_had_words := a_o_wall_had_words) (a_o_rules_asked_words := a_o_rules_asked_words) (a_o_rules_forbidden_words := a_o_rules_forbidden_words) (a_o_rules_law_code := a_o_rules_law_code) (a_o_rules_law_stack := a_o_rules_law_stack) (a_o_wall_told_words := a_o_wall_told_words) C   3000 (0 : Int32) (0 : Int32) x_o_wall_lamps x_o_wall_picture x_o_wall_night x_o_wall_last x_o_rules_rest x_o_rules_shy x_o_rules_askedForLamps x_o_wall_had_words x_o_rules_asked_words x_o_rules_forbidden_words x_o_rules_law_length x_o_rules_law_top x_o_rules_law_code x_o_rules_law_stack x_o_wall_told_words hf
def y_OL_change : MethodName := ⟨"OneLamp", "change", "(I)I"⟩
theorem yy_OL_change : YV y_OL_change prog_1_method_14_code 2 (some .int) 1 := ⟨mw_3_66, mw_1_1, mw_3_64, mw_3_65, by decide +kernel, by decide +kernel, by decide +kernel⟩
theorem d_OL_change_0 : decode prog_1_method_14_code 0 = .ok (.aload_n 0, 1) := by decide +kernel
theorem d_OL_change_1 : decode prog_1_method_14_code 1 = .ok (.getfield 10, 3) := by decide +kernel
theorem d_OL_change_4 : decode prog_1_method_14_code 4 = .ok (.iload_n 1, 1) := by decide +kernel
theorem d_OL_change_5 : decode prog_1_method_14_code 5 = .ok (.invokevirtual 161, 3) := by decide +kernel
theorem d_OL_change_8 : decode prog_1_method_14_code 8 = .ok (.ifCond .ne 5, 3) := by decide +kernel
theorem d_OL_change_11 : decode prog_1_method_14_code 11 = .ok (.iconst (-1), 1) := by decide +kernel
theorem d_OL_change_12 : decode prog_1_method_14_code 12 = .ok (.ireturn, 1) := by decide +kernel
theorem d_OL_change_13 : decode prog_1_method_14_code 13 = .ok (.aload_n 0, 1) := by decide +kernel
theorem d_OL_change_14 : decode prog_1_method_14_code 14 = .ok (.getfield 22, 3) := by decide +kernel
theorem d_OL_change_17 : decode prog_1_method_14_code 17 = .ok (.aload_n 0, 1) := by decide +kernel
theorem d_OL_change_18 : decode prog_1_method_14_code 18 = .ok (.getfield 10, 3) := by decide +kernel
theorem d_OL_change_21 : decode prog_1_method_14_code 21 = .ok (.iload_n 1, 1) := by decide +kernel
theorem d_OL_change_22 : decode prog_1_method_14_code 22 = .ok (.invokevirtual 170, 3) := by decide +kernel
theorem d_OL_change_25 : decode prog_1_method_14_code 25 = .ok (.ifCond .ne 6, 3) := by decide +kernel
theorem d_OL_change_28 : decode prog_1_method_14_code 28 = .ok (.bipush (-2), 2) := by decide +kernel
theorem d_OL_change_30 : decode prog_1_method_14_code 30 = .ok (.ireturn, 1) := by decide +kernel
theorem d_OL_change_31 : decode prog_1_method_14_code 31 = .ok (.aload_n 0, 1) := by decide +kernel
theorem d_OL_change_32 : decode prog_1_method_14_code 32 = .ok (.getfield 10, 3) := by decide +kernel
theorem d_OL_change_35 : decode prog_1_method_14_code 35 = .ok (.iload_n 1, 1) := by decide +kernel
theorem d_OL_change_36 : decode prog_1_method_14_code 36 = .ok (.invokevirtual 173, 3) := by decide +kernel
theorem d_OL_change_39 : decode prog_1_method_14_code 39 = .ok (.aload_n 0, 1) := by decide +kernel
theorem d_OL_change_40 : decode prog_1_method_14_code 40 = .ok (.getfield 10, 3) := by decide +kernel
theorem d_OL_change_43 : decode prog_1_method_14_code 43 = .ok (.iload_n 1, 1) := by decide +kernel
theorem d_OL_change_44 : decode prog_1_method_14_code 44 = .ok (.aload_n 0, 1) := by decide +kernel
theorem d_OL_change_45 : decode prog_1_method_14_code 45 = .ok (.getfield 36, 3) := by decide +kernel
theorem d_OL_change_48 : decode prog_1_method_14_code 48 = .ok (.iload_n 1, 1) := by decide +kernel
theorem d_OL_change_49 : decode prog_1_method_14_code 49 = .ok (.invokevirtual 131, 3) := by decide +kernel
theorem d_OL_change_52 : decode prog_1_method_14_code 52 = .ok (.invokevirtual 176, 3) := by decide +kernel
theorem d_OL_change_55 : decode prog_1_method_14_code 55 = .ok (.aload_n 0, 1) := by decide +kernel
theorem d_OL_change_56 : decode prog_1_method_14_code 56 = .ok (.getfield 10, 3) := by decide +kernel
theorem d_OL_change_59 : decode prog_1_method_14_code 59 = .ok (.getfield 139, 3) := by decide +kernel
theorem d_OL_change_62 : decode prog_1_method_14_code 62 = .ok (.ireturn, 1) := by decide +kernel
def f_OL_change  (p1 : Int32) (x_o_wall_lamps : Int32) (x_o_wall_picture : Int32) (x_o_wall_night : Int32) (x_o_wall_spent : Int32) (x_o_wall_last : Nat → Int32) (x_o_rules_rest : Int32) (x_o_rules_shy : Int32) (x_o_rules_askedForLamps : Int32) (x_o_wall_had_words : Nat → Int64) (x_o_rules_asked_words : Nat → Int64) (x_o_rules_forbidden_words : Nat → Int64) (x_o_rules_law_length : Int32) (x_o_rules_law_top : Int32) (x_o_rules_law_code : Nat → Int32) (x_o_rules_law_stack : Nat → Int32) (x_o_wall_told_words : Nat → Int64) (x_o_costs_prices : Nat → Int32) (x_o_wall_often : Nat → Int32) : Option (Int32 × Int32 × Int32 × Int32 × (Nat → Int32) × Int32 × (Nat → Int64) × (Nat → Int64) × (Nat → Int64) × Int32 × (Nat → Int32) × (Nat → Int32)) :=
  (f_Wa_hasLamp  p1 x_o_wall_lamps).bind fun r1 =>
  if r1 = true then
    ((f_Ru_allow  p1 x_o_wall_lamps x_o_wall_picture x_o_wall_night x_o_wall_last x_o_rules_rest x_o_rules_shy x_o_rules_askedForLamps x_o_wall_had_words x_o_rules_asked_words x_o_rules_forbidden_words x_o_rules_law_length x_o_rules_law_top x_o_rules_law_code x_o_rules_law_stack x_o_wall_told_words).bind fun (r3, u4, u5, u6, u7, u8) =>
    if r3 = true then
      ((f_Wa_step  p1 x_o_wall_lamps x_o_wall_picture x_o_wall_night x_o_wall_last x_o_wall_had_words).bind fun (u10, u11, u12, u13) =>
      (f_Co_of  p1 x_o_costs_prices).bind fun r15 =>
      (f_Wa_pay  p1 r15 x_o_wall_lamps x_o_wall_spent x_o_wall_often).bind fun (u17, u18) =>
      some (u10, u10, u11, u17, u12, u4, u13, u5, u6, u7, u8, u18))
    else
      (some ((-2 : Int32), x_o_wall_picture, x_o_wall_night, x_o_wall_spent, x_o_wall_last, u4, x_o_wall_had_words, u5, u6, u7, u8, x_o_wall_often)))
  else
    (some ((-1 : Int32), x_o_wall_picture, x_o_wall_night, x_o_wall_spent, x_o_wall_last, x_o_rules_askedForLamps, x_o_wall_had_words, x_o_rules_asked_words, x_o_rules_forbidden_words, x_o_rules_law_top, x_o_rules_law_stack, x_o_wall_often))
set_option maxRecDepth 20000 in
theorem c_OL_change {l : Launch} {D : va_G} {dA : Nat → ClassId} {a_o a_o_wall a_o_imageOfWall a_o_rules a_o_tape a_o_costs a_o_thought a_o_acts a_o_shelves a_o_wall_had a_o_wall_told a_o_wall_last a_o_wall_often a_o_rules_law a_o_rules_asked a_o_rules_forbidden a_o_wall_had_words a_o_rules_asked_words a_o_rules_forbidden_words a_o_rules_law_code a_o_rules_law_stack a_o_wall_told_words a_o_costs_prices a_o_costs_lamps a_o_costs_before a_o_costs_after a_o_costs_sorted : Nat} {x_o_imageIsKept : Bool} {x_o_costs_done : Int32} {x_o_costs_undone : Int32} {p1 : Int32} {x_o_wall_lamps : Int32} {x_o_wall_picture : Int32} {x_o_wall_night : Int32} {x_o_wall_spent : Int32} {x_o_wall_last : Nat → Int32} {x_o_rules_rest : Int32} {x_o_rules_shy : Int32} {x_o_rules_askedForLamps : Int32} {x_o_wall_had_words : Nat → Int64} {x_o_rules_asked_words : Nat → Int64} {x_o_rules_forbidden_words : Nat → Int64} {x_o_rules_law_length : Int32} {x_o_rules_law_top : Int32} {x_o_rules_law_code : Nat → Int32} {x_o_rules_law_stack : Nat → Int32} {x_o_wall_told_words : Nat → Int64} {x_o_costs_prices : Nat → Int32} {x_o_wall_often : Nat → Int32} {r0 : Int32} {o_x_o_wall_picture : Int32} {o_x_o_wall_night : Int32} {o_x_o_wall_spent : Int32} {o_x_o_wall_last : Nat → Int32} {o_x_o_rules_askedForLamps : Int32} {o_x_o_wall_had_words : Nat → Int64} {o_x_o_rules_asked_words : Nat → Int64} {o_x_o_rules_forbidden_words : Nat → Int64} {o_x_o_rules_law_top : Int32} {o_x_o_rules_law_stack : Nat → Int32} {o_x_o_wall_often : Nat → Int32}   (hf : f_OL_change  p1 x_o_wall_lamps x_o_wall_picture x_o_wall_night x_o_wall_spent x_o_wall_last x_o_rules_rest x_o_rules_shy x_o_rules_askedForLamps x_o_wall_had_words x_o_rules_asked_words x_o_rules_forbidden_words x_o_rules_law_length x_o_rules_law_top x_o_rules_law_code x_o_rules_law_stack x_o_wall_told_words x_o_costs_prices x_o_wall_often = some (r0, o_x_o_wall_picture, o_x_o_wall_night, o_x_o_wall_spent, o_x_o_wall_last, o_x_o_rules_askedForLamps, o_x_o_wall_had_words, o_x_o_rules_asked_words, o_x_o_rules_forbidden_words, o_x_o_rules_law_top, o_x_o_rules_law_stack, o_x_o_wall_often)) : CT l y_OL_change prog_1_method_14_code 2 (some .int) { frames := 5, cells := 0, slots := 0, locals := 115 } D dA [.ref a_o, .int p1] [O_OL a_o a_o_wall a_o_imageOfWall x_o_imageIsKept a_o_rules a_o_tape a_o_costs a_o_thought a_o_acts a_o_shelves, O_Wa a_o_wall x_o_wall_lamps x_o_wall_picture x_o_wall_night x_o_wall_spent a_o_wall_had a_o_wall_told a_o_wall_last a_o_wall_often, A_I dA a_o_wall_last 10 x_o_wall_last, O_Ru a_o_rules x_o_rules_rest x_o_rules_shy a_o_rules_law a_o_rules_asked a_o_rules_forbidden x_o_rules_askedForLamps, O_Pi a_o_wall_had a_o_wall_had_words, A_J dA a_o_wall_had_words 16 x_o_wall_had_words, O_Pi a_o_rules_asked a_o_rules_asked_words, A_J dA a_o_rules_asked_words 16 x_o_rules_asked_words, O_Pi a_o_rules_forbidden a_o_rules_forbidden_words, A_J dA a_o_rules_forbidden_words 16 x_o_rules_forbidden_words, O_La a_o_rules_law a_o_rules_law_code x_o_rules_law_length a_o_rules_law_stack x_o_rules_law_top, A_I dA a_o_rules_law_code 256 x_o_rules_law_code, A_I dA a_o_rules_law_stack 256 x_o_rules_law_stack, O_Pi a_o_wall_told a_o_wall_told_words, A_J dA a_o_wall_told_words 16 x_o_wall_told_words, O_Co a_o_costs a_o_costs_prices a_o_costs_lamps a_o_costs_before a_o_costs_after a_o_costs_sorted x_o_costs_done x_o_costs_undone, A_I dA a_o_costs_prices 10 x_o_costs_prices, A_I dA a_o_wall_often 10 x_o_wall_often] (some (.int r0)) (fun _ : Unit => [O_OL a_o a_o_wall a_o_imageOfWall x_o_imageIsKept a_o_rules a_o_tape a_o_costs a_o_thought a_o_acts a_o_shelves, O_Wa a_o_wall x_o_wall_lamps o_x_o_wall_picture o_x_o_wall_night o_x_o_wall_spent a_o_wall_had a_o_wall_told a_o_wall_last a_o_wall_often, A_I dA a_o_wall_last 10 o_x_o_wall_last, O_Ru a_o_rules x_o_rules_rest x_o_rules_shy a_o_rules_law a_o_rules_asked a_o_rules_forbidden o_x_o_rules_askedForLamps, O_Pi a_o_wall_had a_o_wall_had_words, A_J dA a_o_wall_had_words 16 o_x_o_wall_had_words, O_Pi a_o_rules_asked a_o_rules_asked_words, A_J dA a_o_rules_asked_words 16 o_x_o_rules_asked_words, O_Pi a_o_rules_forbidden a_o_rules_forbidden_words, A_J dA a_o_rules_forbidden_words 16 o_x_o_rules_forbidden_words, O_La a_o_rules_law a_o_rules_law_code x_o_rules_law_length a_o_rules_law_stack o_x_o_rules_law_top, A_I dA a_o_rules_law_code 256 x_o_rules_law_code, A_I dA a_o_rules_law_stack 256 o_x_o_rules_law_stack, O_Pi a_o_wall_told a_o_wall_told_words, A_J dA a_o_wall_told_words 16 x_o_wall_told_words, O_Co a_o_costs a_o_costs_prices a_o_costs_lamps a_o_costs_before a_o_costs_after a_o_costs_sorted x_o_costs_done x_o_costs_undone, A_I dA a_o_costs_prices 10 x_o_costs_prices, A_I dA a_o_wall_often 10 o_x_o_wall_often]) := by
  refine ct_intro "OneLamp" rfl (by decide +kernel) (Nat.le_of_ble_eq_true rfl) [(0, .ref a_o), (1, .int p1)] rfl (fun _ C => ?_)
  unfold f_OL_change at hf
  refine g_aload_n (pc' := 1) C 0 d_OL_change_0 rfl rfl ?_
  refine g_get (pc' := 4) C kf_OL 0 mw_2_44 d_OL_change_1 rfl 0 rfl (by decide) rfl ?_
  refine g_iload_n (pc' := 5) C 1 d_OL_change_4 rfl rfl ?_
  replace hf := g_bi hf; obtain ⟨r1, hc2, hf⟩ := hf
  refine g_callV (pc' := 8) (st1 := [.int (b2i r1)]) (ws1 := [O_OL a_o a_o_wall a_o_imageOfWall x_o_imageIsKept a_o_rules a_o_tape a_o_costs a_o_thought a_o_acts a_o_shelves, O_Wa a_o_wall x_o_wall_lamps x_o_wall_picture x_o_wall_night x_o_wall_spent a_o_wall_had a_o_wall_told a_o_wall_last a_o_wall_often, A_I dA a_o_wall_last 10 x_o_wall_last, O_Ru a_o_rules x_o_rules_rest x_o_rules_shy a_o_rules_law a_o_rules_asked a_o_rules_forbidden x_o_rules_askedForLamps, O_Pi a_o_wall_had a_o_wall_had_words, A_J dA a_o_wall_had_words 16 x_o_wall_had_words, O_Pi a_o_rules_asked a_o_rules_asked_words, A_J dA a_o_rules_asked_words 16 x_o_rules_asked_words, O_Pi a_o_rules_forbidden a_o_rules_forbidden_words, A_J dA a_o_rules_forbidden_words 16 x_o_rules_forbidden_words, O_La a_o_rules_law a_o_rules_law_code x_o_rules_law_length a_o_rules_law_stack x_o_rules_law_top, A_I dA a_o_rules_law_code 256 x_o_rules_law_code, A_I dA a_o_rules_law_stack 256 x_o_rules_law_stack, O_Pi a_o_wall_told a_o_wall_told_words, A_J dA a_o_wall_told_words 16 x_o_wall_told_words, O_Co a_o_costs a_o_costs_prices a_o_costs_lamps a_o_costs_before a_o_costs_after a_o_costs_sorted x_o_costs_done x_o_costs_undone, A_I dA a_o_costs_prices 10 x_o_costs_prices, A_I dA a_o_wall_often 10 x_o_wall_often]) C (c_Wa_hasLamp (l := l) (D := D) (dA := dA) (a_o := a_o_wall) (a_o_had := a_o_wall_had) (a_o_told := a_o_wall_told) (a_o_last := a_o_wall_last) (a_o_often := a_o_wall_often) (x_o_picture := x_o_wall_picture) (x_o_night := x_o_wall_night) (x_o_spent := x_o_wall_spent)   hc2) yy_Wa_hasLamp kf_Wa rfl mw_3_32 d_OL_change_5 rfl [] rfl rfl (Nat.le_of_ble_eq_true rfl) ⟨Nat.le_of_ble_eq_true rfl, Nat.le_of_ble_eq_true rfl⟩ rfl rfl (Nat.zero_le _) (Nat.zero_le _) 1 rfl [1] rfl (by decide +kernel) rfl (g_lay_sel _ _ _ _ [(0, false), (0, true), (2, false), (3, false), (4, false), (5, false), (6, false), (7, false), (8, false), (9, false), (10, false), (11, false), (12, false), (13, false), (14, false), (15, false), (16, false), (17, false)] (by decide +kernel) rfl (by decide +kernel) rfl rfl) rfl ?_
  refine g_if_neb (pc' := 11) (tgt := 13) C d_OL_change_8 rfl rfl (fun h => ?_) (fun h => ?_)
  · replace hf := g_bt h hf
    refine g_aload_n (pc' := 14) C 0 d_OL_change_13 rfl rfl ?_
    refine g_get (pc' := 17) C kf_OL 3 mw_2_47 d_OL_change_14 rfl 0 rfl (by decide) rfl ?_
    refine g_aload_n (pc' := 18) C 0 d_OL_change_17 rfl rfl ?_
    refine g_get (pc' := 21) C kf_OL 0 mw_2_44 d_OL_change_18 rfl 0 rfl (by decide) rfl ?_
    refine g_iload_n (pc' := 22) C 1 d_OL_change_21 rfl rfl ?_
    replace hf := g_bi hf; obtain ⟨⟨r3, u4, u5, u6, u7, u8⟩, hc9, hf⟩ := hf
    dsimp only at hf
    refine g_callV (pc' := 25) (st1 := [.int (b2i r3)]) (ws1 := [O_OL a_o a_o_wall a_o_imageOfWall x_o_imageIsKept a_o_rules a_o_tape a_o_costs a_o_thought a_o_acts a_o_shelves, O_Wa a_o_wall x_o_wall_lamps x_o_wall_picture x_o_wall_night x_o_wall_spent a_o_wall_had a_o_wall_told a_o_wall_last a_o_wall_often, A_I dA a_o_wall_last 10 x_o_wall_last, O_Ru a_o_rules x_o_rules_rest x_o_rules_shy a_o_rules_law a_o_rules_asked a_o_rules_forbidden u4, O_Pi a_o_wall_had a_o_wall_had_words, A_J dA a_o_wall_had_words 16 x_o_wall_had_words, O_Pi a_o_rules_asked a_o_rules_asked_words, A_J dA a_o_rules_asked_words 16 u5, O_Pi a_o_rules_forbidden a_o_rules_forbidden_words, A_J dA a_o_rules_forbidden_words 16 u6, O_La a_o_rules_law a_o_rules_law_code x_o_rules_law_length a_o_rules_law_stack u7, A_I dA a_o_rules_law_code 256 x_o_rules_law_code, A_I dA a_o_rules_law_stack 256 u8, O_Pi a_o_wall_told a_o_wall_told_words, A_J dA a_o_wall_told_words 16 x_o_wall_told_words, O_Co a_o_costs a_o_costs_prices a_o_costs_lamps a_o_costs_before a_o_costs_after a_o_costs_sorted x_o_costs_done x_o_costs_undone, A_I dA a_o_costs_prices 10 x_o_costs_prices, A_I dA a_o_wall_often 10 x_o_wall_often]) C (c_Ru_allow (l := l) (D := D) (dA := dA) (a_o := a_o_rules) (a_p1 := a_o_wall) (a_p1_had := a_o_wall_had) (a_p1_told := a_o_wall_told) (a_p1_last := a_o_wall_last) (a_p1_often := a_o_wall_often) (a_o_law := a_o_rules_law) (a_o_asked := a_o_rules_asked) (a_o_forbidden := a_o_rules_forbidden) (a_p1_had_words := a_o_wall_had_words) (a_o_asked_words := a_o_rules_asked_words) (a_o_forbidden_words := a_o_rules_forbidden_words) (a_o_law_code := a_o_rules_law_code) (a_o_law_stack := a_o_rules_law_stack) (a_p1_told_words := a_o_wall_told_words) (x_p1_spent := x_o_wall_spent)   hc9) yy_Ru_allow kf_Ru rfl mw_3_49 d_OL_change_22 rfl [] rfl rfl (Nat.le_of_ble_eq_true rfl) ⟨Nat.le_of_ble_eq_true rfl, Nat.le_of_ble_eq_true rfl⟩ rfl rfl (Nat.zero_le _) (Nat.zero_le _) 3 rfl [1, 2, 3, 4, 5, 6, 7, 8, 9, 10, 11, 12, 13, 14] rfl (by decide +kernel) rfl (g_lay_sel _ _ _ _ [(0, false), (0, true), (1, true), (2, true), (3, true), (4, true), (5, true), (6, true), (7, true), (8, true), (9, true), (10, true), (11, true), (12, true), (13, true), (15, false), (16, false), (17, false)] (by decide +kernel) rfl (by decide +kernel) rfl rfl) rfl ?_
    refine g_if_neb (pc' := 28) (tgt := 31) C d_OL_change_25 rfl rfl (fun h => ?_) (fun h => ?_)
    · replace hf := g_bt h hf
      refine g_aload_n (pc' := 32) C 0 d_OL_change_31 rfl rfl ?_
      refine g_get (pc' := 35) C kf_OL 0 mw_2_44 d_OL_change_32 rfl 0 rfl (by decide) rfl ?_
      refine g_iload_n (pc' := 36) C 1 d_OL_change_35 rfl rfl ?_
      replace hf := g_bi hf; obtain ⟨⟨u10, u11, u12, u13⟩, hc14, hf⟩ := hf
      dsimp only at hf
      refine g_callV (pc' := 39) (st1 := []) (ws1 := [O_OL a_o a_o_wall a_o_imageOfWall x_o_imageIsKept a_o_rules a_o_tape a_o_costs a_o_thought a_o_acts a_o_shelves, O_Wa a_o_wall x_o_wall_lamps u10 u11 x_o_wall_spent a_o_wall_had a_o_wall_told a_o_wall_last a_o_wall_often, A_I dA a_o_wall_last 10 u12, O_Ru a_o_rules x_o_rules_rest x_o_rules_shy a_o_rules_law a_o_rules_asked a_o_rules_forbidden u4, O_Pi a_o_wall_had a_o_wall_had_words, A_J dA a_o_wall_had_words 16 u13, O_Pi a_o_rules_asked a_o_rules_asked_words, A_J dA a_o_rules_asked_words 16 u5, O_Pi a_o_rules_forbidden a_o_rules_forbidden_words, A_J dA a_o_rules_forbidden_words 16 u6, O_La a_o_rules_law a_o_rules_law_code x_o_rules_law_length a_o_rules_law_stack u7, A_I dA a_o_rules_law_code 256 x_o_rules_law_code, A_I dA a_o_rules_law_stack 256 u8, O_Pi a_o_wall_told a_o_wall_told_words, A_J dA a_o_wall_told_words 16 x_o_wall_told_words, O_Co a_o_costs a_o_costs_prices a_o_costs_lamps a_o_costs_before a_o_costs_after a_o_costs_sorted x_o_costs_done x_o_costs_undone, A_I dA a_o_costs_prices 10 x_o_costs_prices, A_I dA a_o_wall_often 10 x_o_wall_often]) C (c_Wa_step (l := l) (D := D) (dA := dA) (a_o := a_o_wall) (a_o_had := a_o_wall_had) (a_o_told := a_o_wall_told) (a_o_last := a_o_wall_last) (a_o_often := a_o_wall_often) (a_o_had_words := a_o_wall_had_words) (x_o_spent := x_o_wall_spent)   hc14) yy_Wa_step kf_Wa rfl mw_3_67 d_OL_change_36 rfl [] rfl rfl (Nat.le_of_ble_eq_true rfl) ⟨Nat.le_of_ble_eq_true rfl, Nat.le_of_ble_eq_true rfl⟩ rfl rfl (Nat.zero_le _) (Nat.zero_le _) 1 rfl [1, 2, 4, 5] rfl (by decide +kernel) rfl (g_lay_sel _ _ _ _ [(0, false), (0, true), (1, true), (3, false), (2, true), (3, true), (6, false), (7, false), (8, false), (9, false), (10, false), (11, false), (12, false), (13, false), (14, false), (15, false), (16, false), (17, false)] (by decide +kernel) rfl (by decide +kernel) rfl rfl) rfl ?_
      refine g_aload_n (pc' := 40) C 0 d_OL_change_39 rfl rfl ?_
      refine g_get (pc' := 43) C kf_OL 0 mw_2_44 d_OL_change_40 rfl 0 rfl (by decide) rfl ?_
      refine g_iload_n (pc' := 44) C 1 d_OL_change_43 rfl rfl ?_
      refine g_aload_n (pc' := 45) C 0 d_OL_change_44 rfl rfl ?_
      refine g_get (pc' := 48) C kf_OL 5 mw_2_49 d_OL_change_45 rfl 0 rfl (by decide) rfl ?_
      refine g_iload_n (pc' := 49) C 1 d_OL_change_48 rfl rfl ?_
      replace hf := g_bi hf; obtain ⟨r15, hc16, hf⟩ := hf
      refine g_callV (pc' := 52) (st1 := [.int r15, .int p1, .ref a_o_wall]) (ws1 := [O_OL a_o a_o_wall a_o_imageOfWall x_o_imageIsKept a_o_rules a_o_tape a_o_costs a_o_thought a_o_acts a_o_shelves, O_Wa a_o_wall x_o_wall_lamps u10 u11 x_o_wall_spent a_o_wall_had a_o_wall_told a_o_wall_last a_o_wall_often, A_I dA a_o_wall_last 10 u12, O_Ru a_o_rules x_o_rules_rest x_o_rules_shy a_o_rules_law a_o_rules_asked a_o_rules_forbidden u4, O_Pi a_o_wall_had a_o_wall_had_words, A_J dA a_o_wall_had_words 16 u13, O_Pi a_o_rules_asked a_o_rules_asked_words, A_J dA a_o_rules_asked_words 16 u5, O_Pi a_o_rules_forbidden a_o_rules_forbidden_words, A_J dA a_o_rules_forbidden_words 16 u6, O_La a_o_rules_law a_o_rules_law_code x_o_rules_law_length a_o_rules_law_stack u7, A_I dA a_o_rules_law_code 256 x_o_rules_law_code, A_I dA a_o_rules_law_stack 256 u8, O_Pi a_o_wall_told a_o_wall_told_words, A_J dA a_o_wall_told_words 16 x_o_wall_told_words, O_Co a_o_costs a_o_costs_prices a_o_costs_lamps a_o_costs_before a_o_costs_after a_o_costs_sorted x_o_costs_done x_o_costs_undone, A_I dA a_o_costs_prices 10 x_o_costs_prices, A_I dA a_o_wall_often 10 x_o_wall_often]) C (c_Co_of (l := l) (D := D) (dA := dA) (a_o := a_o_costs) (a_o_prices := a_o_costs_prices) (a_o_lamps := a_o_costs_lamps) (a_o_before := a_o_costs_before) (a_o_after := a_o_costs_after) (a_o_sorted := a_o_costs_sorted) (x_o_done := x_o_costs_done) (x_o_undone := x_o_costs_undone)   hc16) yy_Co_of kf_Co rfl mw_2_183 d_OL_change_49 rfl [.int p1, .ref a_o_wall] rfl rfl (Nat.le_of_ble_eq_true rfl) ⟨Nat.le_of_ble_eq_true rfl, Nat.le_of_ble_eq_true rfl⟩ rfl rfl (Nat.zero_le _) (Nat.zero_le _) 15 rfl [15, 16] rfl (by decide +kernel) rfl (g_lay_sel _ _ _ _ [(0, false), (1, false), (2, false), (3, false), (4, false), (5, false), (6, false), (7, false), (8, false), (9, false), (10, false), (11, false), (12, false), (13, false), (14, false), (0, true), (1, true), (17, false)] (by decide +kernel) rfl (by decide +kernel) rfl rfl) rfl ?_
      replace hf := g_bi hf; obtain ⟨⟨u17, u18⟩, hc19, hf⟩ := hf
      dsimp only at hf
      refine g_callV (pc' := 55) (st1 := []) (ws1 := [O_OL a_o a_o_wall a_o_imageOfWall x_o_imageIsKept a_o_rules a_o_tape a_o_costs a_o_thought a_o_acts a_o_shelves, O_Wa a_o_wall x_o_wall_lamps u10 u11 u17 a_o_wall_had a_o_wall_told a_o_wall_last a_o_wall_often, A_I dA a_o_wall_last 10 u12, O_Ru a_o_rules x_o_rules_rest x_o_rules_shy a_o_rules_law a_o_rules_asked a_o_rules_forbidden u4, O_Pi a_o_wall_had a_o_wall_had_words, A_J dA a_o_wall_had_words 16 u13, O_Pi a_o_rules_asked a_o_rules_asked_words, A_J dA a_o_rules_asked_words 16 u5, O_Pi a_o_rules_forbidden a_o_rules_forbidden_words, A_J dA a_o_rules_forbidden_words 16 u6, O_La a_o_rules_law a_o_rules_law_code x_o_rules_law_length a_o_rules_law_stack u7, A_I dA a_o_rules_law_code 256 x_o_rules_law_code, A_I dA a_o_rules_law_stack 256 u8, O_Pi a_o_wall_told a_o_wall_told_words, A_J dA a_o_wall_told_words 16 x_o_wall_told_words, O_Co a_o_costs a_o_costs_prices a_o_costs_lamps a_o_costs_before a_o_costs_after a_o_costs_sorted x_o_costs_done x_o_costs_undone, A_I dA a_o_costs_prices 10 x_o_costs_prices, A_I dA a_o_wall_often 10 u18]) C (c_Wa_pay (l := l) (D := D) (dA := dA) (a_o := a_o_wall) (a_o_had := a_o_wall_had) (a_o_told := a_o_wall_told) (a_o_last := a_o_wall_last) (a_o_often := a_o_wall_often) (x_o_picture := u10) (x_o_night := u11)   hc19) yy_Wa_pay kf_Wa rfl mw_3_71 d_OL_change_52 rfl [] rfl rfl (Nat.le_of_ble_eq_true rfl) ⟨Nat.le_of_ble_eq_true rfl, Nat.le_of_ble_eq_true rfl⟩ rfl rfl (Nat.zero_le _) (Nat.zero_le _) 1 rfl [1, 17] rfl (by decide +kernel) rfl (g_lay_sel _ _ _ _ [(0, false), (0, true), (2, false), (3, false), (4, false), (5, false), (6, false), (7, false), (8, false), (9, false), (10, false), (11, false), (12, false), (13, false), (14, false), (15, false), (16, false), (1, true)] (by decide +kernel) rfl (by decide +kernel) rfl rfl) rfl ?_
      refine g_aload_n (pc' := 56) C 0 d_OL_change_55 rfl rfl ?_
      refine g_get (pc' := 59) C kf_OL 0 mw_2_44 d_OL_change_56 rfl 0 rfl (by decide) rfl ?_
      refine g_get (pc' := 62) C kf_Wa 1 mw_1_70 d_OL_change_59 rfl 1 rfl (by decide) rfl ?_
      replace hf := g_o2 hf; obtain ⟨h1, hf⟩ := hf; subst h1
      replace hf := g_o2 hf; obtain ⟨h1, hf⟩ := hf; subst h1
      replace hf := g_o2 hf; obtain ⟨h1, hf⟩ := hf; subst h1
      replace hf := g_o2 hf; obtain ⟨h1, hf⟩ := hf; subst h1
      replace hf := g_o2 hf; obtain ⟨h1, hf⟩ := hf; subst h1
      replace hf := g_o2 hf; obtain ⟨h1, hf⟩ := hf; subst h1
      replace hf := g_o2 hf; obtain ⟨h1, hf⟩ := hf; subst h1
      replace hf := g_o2 hf; obtain ⟨h1, hf⟩ := hf; subst h1
      replace hf := g_o2 hf; obtain ⟨h1, hf⟩ := hf; subst h1
      replace hf := g_o2 hf; obtain ⟨h1, hf⟩ := hf; subst h1
      replace hf := g_o2 hf; obtain ⟨h1, hf⟩ := hf; subst h1
      replace hf := Option.some.inj hf; subst hf
      exact g_iret C d_OL_change_62 () rfl
    · replace hf := g_bf h hf
      refine g_bipush (pc' := 30) (v := (-2)) C d_OL_change_28 rfl rfl ?_
      replace hf := g_o2 hf; obtain ⟨h1, hf⟩ := hf; subst h1
      replace hf := g_o2 hf; obtain ⟨h1, hf⟩ := hf; subst h1
      replace hf := g_o2 hf; obtain ⟨h1, hf⟩ := hf; subst h1
      replace hf := g_o2 hf; obtain ⟨h1, hf⟩ := hf; subst h1
      replace hf := g_o2 hf; obtain ⟨h1, hf⟩ := hf; subst h1
      replace hf := g_o2 hf; obtain ⟨h1, hf⟩ := hf; subst h1
      replace hf := g_o2 hf; obtain ⟨h1, hf⟩ := hf; subst h1
      replace hf := g_o2 hf; obtain ⟨h1, hf⟩ := hf; subst h1
      replace hf := g_o2 hf; obtain ⟨h1, hf⟩ := hf; subst h1
      replace hf := g_o2 hf; obtain ⟨h1, hf⟩ := hf; subst h1
      replace hf := g_o2 hf; obtain ⟨h1, hf⟩ := hf; subst h1
      replace hf := Option.some.inj hf; subst hf
      exact g_iret C d_OL_change_30 () rfl
  · replace hf := g_bf h hf
    refine g_iconst (pc' := 12) (v := (-1)) C d_OL_change_11 rfl rfl ?_
    replace hf := g_o2 hf; obtain ⟨h1, hf⟩ := hf; subst h1
    replace hf := g_o2 hf; obtain ⟨h1, hf⟩ := hf; subst h1
    replace hf := g_o2 hf; obtain ⟨h1, hf⟩ := hf; subst h1
    replace hf := g_o2 hf; obtain ⟨h1, hf⟩ := hf; subst h1
    replace hf := g_o2 hf; obtain ⟨h1, hf⟩ := hf; subst h1
    replace hf := g_o2 hf; obtain ⟨h1, hf⟩ := hf; subst h1
    replace hf := g_o2 hf; obtain ⟨h1, hf⟩ := hf; subst h1
    replace hf := g_o2 hf; obtain ⟨h1, hf⟩ := hf; subst h1
    replace hf := g_o2 hf; obtain ⟨h1, hf⟩ := hf; subst h1
    replace hf := g_o2 hf; obtain ⟨h1, hf⟩ := hf; subst h1
    replace hf := g_o2 hf; obtain ⟨h1, hf⟩ := hf; subst h1
    replace hf := Option.some.inj hf; subst hf
    exact g_iret C d_OL_change_12 () rfl
def y_OL_longest : MethodName := ⟨"OneLamp", "longest", "(I)I"⟩
theorem yy_OL_longest : YV y_OL_longest prog_1_method_15_code 3 (some .int) 1 := ⟨mw_3_78, mw_1_1, mw_3_76, mw_3_77, by decide +kernel, by decide +kernel, by decide +kernel⟩
theorem d_OL_longest_0 : decode prog_1_method_15_code 0 = .ok (.iload_n 1, 1) := by decide +kernel
theorem d_OL_longest_1 : decode prog_1_method_15_code 1 = .ok (.iconst (-1), 1) := by decide +kernel
theorem d_OL_longest_2 : decode prog_1_method_15_code 2 = .ok (.if_icmp .ge 5, 3) := by decide +kernel
theorem d_OL_longest_5 : decode prog_1_method_15_code 5 = .ok (.iconst (-1), 1) := by decide +kernel
theorem d_OL_longest_6 : decode prog_1_method_15_code 6 = .ok (.ireturn, 1) := by decide +kernel
theorem d_OL_longest_7 : decode prog_1_method_15_code 7 = .ok (.aload_n 0, 1) := by decide +kernel
theorem d_OL_longest_8 : decode prog_1_method_15_code 8 = .ok (.getfield 10, 3) := by decide +kernel
theorem d_OL_longest_11 : decode prog_1_method_15_code 11 = .ok (.getfield 61, 3) := by decide +kernel
theorem d_OL_longest_14 : decode prog_1_method_15_code 14 = .ok (.iconst 4, 1) := by decide +kernel
theorem d_OL_longest_15 : decode prog_1_method_15_code 15 = .ok (.if_icmp .le 6, 3) := by decide +kernel
theorem d_OL_longest_18 : decode prog_1_method_15_code 18 = .ok (.bipush (-5), 2) := by decide +kernel
theorem d_OL_longest_20 : decode prog_1_method_15_code 20 = .ok (.ireturn, 1) := by decide +kernel
theorem d_OL_longest_21 : decode prog_1_method_15_code 21 = .ok (.aload_n 0, 1) := by decide +kernel
theorem d_OL_longest_22 : decode prog_1_method_15_code 22 = .ok (.getfield 43, 3) := by decide +kernel
theorem d_OL_longest_25 : decode prog_1_method_15_code 25 = .ok (.aload_n 0, 1) := by decide +kernel
theorem d_OL_longest_26 : decode prog_1_method_15_code 26 = .ok (.getfield 10, 3) := by decide +kernel
theorem d_OL_longest_29 : decode prog_1_method_15_code 29 = .ok (.aload_n 0, 1) := by decide +kernel
theorem d_OL_longest_30 : decode prog_1_method_15_code 30 = .ok (.getfield 22, 3) := by decide +kernel
theorem d_OL_longest_33 : decode prog_1_method_15_code 33 = .ok (.invokevirtual 179, 3) := by decide +kernel
theorem d_OL_longest_36 : decode prog_1_method_15_code 36 = .ok (.istore_n 2, 1) := by decide +kernel
theorem d_OL_longest_37 : decode prog_1_method_15_code 37 = .ok (.iload_n 1, 1) := by decide +kernel
theorem d_OL_longest_38 : decode prog_1_method_15_code 38 = .ok (.iconst (-1), 1) := by decide +kernel
theorem d_OL_longest_39 : decode prog_1_method_15_code 39 = .ok (.if_icmp .ne 5, 3) := by decide +kernel
theorem d_OL_longest_42 : decode prog_1_method_15_code 42 = .ok (.iload_n 2, 1) := by decide +kernel
theorem d_OL_longest_43 : decode prog_1_method_15_code 43 = .ok (.ireturn, 1) := by decide +kernel
theorem d_OL_longest_44 : decode prog_1_method_15_code 44 = .ok (.iload_n 1, 1) := by decide +kernel
theorem d_OL_longest_45 : decode prog_1_method_15_code 45 = .ok (.iload_n 2, 1) := by decide +kernel
theorem d_OL_longest_46 : decode prog_1_method_15_code 46 = .ok (.if_icmp .ge 14, 3) := by decide +kernel
theorem d_OL_longest_49 : decode prog_1_method_15_code 49 = .ok (.aload_n 0, 1) := by decide +kernel
theorem d_OL_longest_50 : decode prog_1_method_15_code 50 = .ok (.getfield 43, 3) := by decide +kernel
theorem d_OL_longest_53 : decode prog_1_method_15_code 53 = .ok (.iload_n 1, 1) := by decide +kernel
theorem d_OL_longest_54 : decode prog_1_method_15_code 54 = .ok (.invokevirtual 183, 3) := by decide +kernel
theorem d_OL_longest_57 : decode prog_1_method_15_code 57 = .ok (.goto 4, 3) := by decide +kernel
theorem d_OL_longest_60 : decode prog_1_method_15_code 60 = .ok (.iconst (-1), 1) := by decide +kernel
theorem d_OL_longest_61 : decode prog_1_method_15_code 61 = .ok (.ireturn, 1) := by decide +kernel
def f_OL_longest  (p1 : Int32) (x_o_wall_lamps : Int32) (x_o_wall_picture : Int32) (x_o_wall_night : Int32) (x_o_wall_spent : Int32) (x_o_thought_bestLength : Int32) (x_o_thought_open : Int32) (x_o_thought_wall_lamps : Int32) (x_o_thought_wall_picture : Int32) (x_o_thought_wall_night : Int32) (x_o_thought_wall_spent : Int32) (x_o_thought_wall_had_words : Nat → Int64) (x_o_wall_had_words : Nat → Int64) (x_o_thought_wall_told_words : Nat → Int64) (x_o_wall_told_words : Nat → Int64) (x_o_wall_last : Nat → Int32) (x_o_thought_wall_last : Nat → Int32) (x_o_wall_often : Nat → Int32) (x_o_thought_wall_often : Nat → Int32) (x_o_rules_rest : Int32) (x_o_rules_shy : Int32) (x_o_rules_askedForLamps : Int32) (x_o_rules_asked_words : Nat → Int64) (x_o_rules_forbidden_words : Nat → Int64) (x_o_rules_law_length : Int32) (x_o_rules_law_top : Int32) (x_o_rules_law_code : Nat → Int32) (x_o_rules_law_stack : Nat → Int32) (x_o_thought_way : Nat → Int32) (x_o_thought_best : Nat → Int32) : Option (Int32 × Int32 × Int32 × Int32 × Int32 × Int32 × Int32 × (Nat → Int64) × (Nat → Int64) × (Nat → Int32) × (Nat → Int32) × Int32 × (Nat → Int64) × (Nat → Int64) × Int32 × (Nat → Int32) × (Nat → Int32) × (Nat → Int32)) :=
  if (-1 : Int32) ≤ p1 then
    (if x_o_wall_lamps ≤ (4 : Int32) then
      ((f_Th_longestFrom  x_o_thought_bestLength x_o_thought_open x_o_wall_lamps x_o_wall_picture x_o_wall_night x_o_wall_spent x_o_thought_wall_lamps x_o_thought_wall_picture x_o_thought_wall_night x_o_thought_wall_spent x_o_thought_wall_had_words x_o_wall_had_words x_o_thought_wall_told_words x_o_wall_told_words x_o_wall_last x_o_thought_wall_last x_o_wall_often x_o_thought_wall_often x_o_rules_rest x_o_rules_shy x_o_rules_askedForLamps x_o_rules_asked_words x_o_rules_forbidden_words x_o_rules_law_length x_o_rules_law_top x_o_rules_law_code x_o_rules_law_stack x_o_thought_way x_o_thought_best).bind fun (r1, u2, u3, u4, u5, u6, u7, u8, u9, u10, u11, u12, u13, u14, u15, u16, u17, u18) =>
      if p1 = (-1 : Int32) then
        (some (r1, u2, u3, u4, u5, u6, u7, u8, u9, u10, u11, u12, u13, u14, u15, u16, u17, u18))
      else
        (if r1 ≤ p1 then
          (some ((-1 : Int32), u2, u3, u4, u5, u6, u7, u8, u9, u10, u11, u12, u13, u14, u15, u16, u17, u18))
        else
          ((f_Th_lampOfBest  p1 u2 u18).bind fun r20 =>
          some (r20, u2, u3, u4, u5, u6, u7, u8, u9, u10, u11, u12, u13, u14, u15, u16, u17, u18))))
    else
      (some ((-5 : Int32), x_o_thought_bestLength, x_o_thought_open, x_o_thought_wall_lamps, x_o_thought_wall_picture, x_o_thought_wall_night, x_o_thought_wall_spent, x_o_thought_wall_had_words, x_o_thought_wall_told_words, x_o_thought_wall_last, x_o_thought_wall_often, x_o_rules_askedForLamps, x_o_rules_asked_words, x_o_rules_forbidden_words, x_o_rules_law_top, x_o_rules_law_stack, x_o_thought_way, x_o_thought_best)))
  else
    (some ((-1 : Int32), x_o_thought_bestLength, x_o_thought_open, x_o_thought_wall_lamps, x_o_thought_wall_picture, x_o_thought_wall_night, x_o_thought_wall_spent, x_o_thought_wall_had_words, x_o_thought_wall_told_words, x_o_thought_wall_last, x_o_thought_wall_often, x_o_rules_askedForLamps, x_o_rules_asked_words, x_o_rules_forbidden_words, x_o_rules_law_top, x_o_rules_law_stack, x_o_thought_way, x_o_thought_best))
set_option maxRecDepth 20000 in
theorem c_OL_longest {l : Launch} {D : va_G} {dA : Nat → ClassId} {a_o a_o_wall a_o_imageOfWall a_o_rules a_o_tape a_o_costs a_o_thought a_o_acts a_o_shelves a_o_wall_had a_o_wall_told a_o_wall_last a_o_wall_often a_o_thought_wall a_o_thought_way a_o_thought_best a_o_thought_wall_had a_o_thought_wall_told a_o_thought_wall_last a_o_thought_wall_often a_o_wall_had_words a_o_thought_wall_had_words a_o_wall_told_words a_o_thought_wall_told_words a_o_rules_law a_o_rules_asked a_o_rules_forbidden a_o_rules_asked_words a_o_rules_forbidden_words a_o_rules_law_code a_o_rules_law_stack : Nat} {x_o_imageIsKept : Bool} {x_o_thought_found : Int32} {p1 : Int32} {x_o_wall_lamps : Int32} {x_o_wall_picture : Int32} {x_o_wall_night : Int32} {x_o_wall_spent : Int32} {x_o_thought_bestLength : Int32} {x_o_thought_open : Int32} {x_o_thought_wall_lamps : Int32} {x_o_thought_wall_picture : Int32} {x_o_thought_wall_night : Int32} {x_o_thought_wall_spent : Int32} {x_o_thought_wall_had_words : Nat → Int64} {x_o_wall_had_words : Nat → Int64} {x_o_thought_wall_told_words : Nat → Int64} {x_o_wall_told_words : Nat → Int64} {x_o_wall_last : Nat → Int32} {x_o_thought_wall_last : Nat → Int32} {x_o_wall_often : Nat → Int32} {x_o_thought_wall_often : Nat → Int32} {x_o_rules_rest : Int32} {x_o_rules_shy : Int32} {x_o_rules_askedForLamps : Int32} {x_o_rules_asked_words : Nat → Int64} {x_o_rules_forbidden_words : Nat → Int64} {x_o_rules_law_length : Int32} {x_o_rules_law_top : Int32} {x_o_rules_law_code : Nat → Int32} {x_o_rules_law_stack : Nat → Int32} {x_o_thought_way : Nat → Int32} {x_o_thought_best : Nat → Int32} {r0 : Int32} {o_x_o_thought_bestLength : Int32} {o_x_o_thought_open : Int32} {o_x_o_thought_wall_lamps : Int32} {o_x_o_thought_wall_picture : Int32} {o_x_o_thought_wall_night : Int32} {o_x_o_thought_wall_spent : Int32} {o_x_o_thought_wall_had_words : Nat → Int64} {o_x_o_thought_wall_told_words : Nat → Int64} {o_x_o_thought_wall_last : Nat → Int32} {o_x_o_thought_wall_often : Nat → Int32} {o_x_o_rules_askedForLamps : Int32} {o_x_o_rules_asked_words : Nat → Int64} {o_x_o_rules_forbidden_words : Nat → Int64} {o_x_o_rules_law_top : Int32} {o_x_o_rules_law_stack : Nat → Int32} {o_x_o_thought_way : Nat → Int32} {o_x_o_thought_best : Nat → Int32}   (hf : f_OL_longest  p1 x_o_wall_lamps x_o_wall_picture x_o_wall_night x_o_wall_spent x_o_thought_bestLength x_o_thought_open x_o_thought_wall_lamps x_o_thought_wall_picture x_o_thought_wall_night x_o_thought_wall_spent x_o_thought_wall_had_words x_o_wall_had_words x_o_thought_wall_told_words x_o_wall_told_words x_o_wall_last x_o_thought_wall_last x_o_wall_often x_o_thought_wall_often x_o_rules_rest x_o_rules_shy x_o_rules_askedForLamps x_o_rules_asked_words x_o_rules_forbidden_words x_o_rules_law_length x_o_rules_law_top x_o_rules_law_code x_o_rules_law_stack x_o_thought_way x_o_thought_best = some (r0, o_x_o_thought_bestLength, o_x_o_thought_open, o_x_o_thought_wall_lamps, o_x_o_thought_wall_picture, o_x_o_thought_wall_night, o_x_o_thought_wall_spent, o_x_o_thought_wall_had_words, o_x_o_thought_wall_told_words, o_x_o_thought_wall_last, o_x_o_thought_wall_often, o_x_o_rules_askedForLamps, o_x_o_rules_asked_words, o_x_o_rules_forbidden_words, o_x_o_rules_law_top, o_x_o_rules_law_stack, o_x_o_thought_way, o_x_o_thought_best)) : CT l y_OL_longest prog_1_method_15_code 3 (some .int) { frames := 102, cells := 0, slots := 0, locals := 2346 } D dA [.ref a_o, .int p1] [O_OL a_o a_o_wall a_o_imageOfWall x_o_imageIsKept a_o_rules a_o_tape a_o_costs a_o_thought a_o_acts a_o_shelves, O_Wa a_o_wall x_o_wall_lamps x_o_wall_picture x_o_wall_night x_o_wall_spent a_o_wall_had a_o_wall_told a_o_wall_last a_o_wall_often, O_Th a_o_thought a_o_thought_wall a_o_thought_way a_o_thought_best x_o_thought_bestLength x_o_thought_open x_o_thought_found, O_Wa a_o_thought_wall x_o_thought_wall_lamps x_o_thought_wall_picture x_o_thought_wall_night x_o_thought_wall_spent a_o_thought_wall_had a_o_thought_wall_told a_o_thought_wall_last a_o_thought_wall_often, O_Pi a_o_wall_had a_o_wall_had_words, O_Pi a_o_thought_wall_had a_o_thought_wall_had_words, A_J dA a_o_thought_wall_had_words 16 x_o_thought_wall_had_words, A_J dA a_o_wall_had_words 16 x_o_wall_had_words, O_Pi a_o_wall_told a_o_wall_told_words, O_Pi a_o_thought_wall_told a_o_thought_wall_told_words, A_J dA a_o_thought_wall_told_words 16 x_o_thought_wall_told_words, A_J dA a_o_wall_told_words 16 x_o_wall_told_words, A_I dA a_o_wall_last 10 x_o_wall_last, A_I dA a_o_thought_wall_last 10 x_o_thought_wall_last, A_I dA a_o_wall_often 10 x_o_wall_often, A_I dA a_o_thought_wall_often 10 x_o_thought_wall_often, O_Ru a_o_rules x_o_rules_rest x_o_rules_shy a_o_rules_law a_o_rules_asked a_o_rules_forbidden x_o_rules_askedForLamps, O_Pi a_o_rules_asked a_o_rules_asked_words, A_J dA a_o_rules_asked_words 16 x_o_rules_asked_words, O_Pi a_o_rules_forbidden a_o_rules_forbidden_words, A_J dA a_o_rules_forbidden_words 16 x_o_rules_forbidden_words, O_La a_o_rules_law a_o_rules_law_code x_o_rules_law_length a_o_rules_law_stack x_o_rules_law_top, A_I dA a_o_rules_law_code 256 x_o_rules_law_code, A_I dA a_o_rules_law_stack 256 x_o_rules_law_stack, A_I dA a_o_thought_way 15 x_o_thought_way, A_I dA a_o_thought_best 15 x_o_thought_best] (some (.int r0)) (fun _ : Unit => [O_OL a_o a_o_wall a_o_imageOfWall x_o_imageIsKept a_o_rules a_o_tape a_o_costs a_o_thought a_o_acts a_o_shelves, O_Wa a_o_wall x_o_wall_lamps x_o_wall_picture x_o_wall_night x_o_wall_spent a_o_wall_had a_o_wall_told a_o_wall_last a_o_wall_often, O_Th a_o_thought a_o_thought_wall a_o_thought_way a_o_thought_best o_x_o_thought_bestLength o_x_o_thought_open x_o_thought_found, O_Wa a_o_thought_wall o_x_o_thought_wall_lamps o_x_o_thought_wall_picture o_x_o_thought_wall_night o_x_o_thought_wall_spent a_o_thought_wall_had a_o_thought_wall_told a_o_thought_wall_last a_o_thought_wall_often, O_Pi a_o_wall_had a_o_wall_had_words, O_Pi a_o_thought_wall_had a_o_thought_wall_had_words, A_J dA a_o_thought_wall_had_words 16 o_x_o_thought_wall_had_words, A_J dA a_o_wall_had_words 16 x_o_wall_had_words, O_Pi a_o_wall_told a_o_wall_told_words, O_Pi a_o_thought_wall_told a_o_thought_wall_told_words, A_J dA a_o_thought_wall_told_words 16 o_x_o_thought_wall_told_words, A_J dA a_o_wall_told_words 16 x_o_wall_told_words, A_I dA a_o_wall_last 10 x_o_wall_last, A_I dA a_o_thought_wall_last 10 o_x_o_thought_wall_last, A_I dA a_o_wall_often 10 x_o_wall_often, A_I dA a_o_thought_wall_often 10 o_x_o_thought_wall_often, O_Ru a_o_rules x_o_rules_rest x_o_rules_shy a_o_rules_law a_o_rules_asked a_o_rules_forbidden o_x_o_rules_askedForLamps, O_Pi a_o_rules_asked a_o_rules_asked_words, A_J dA a_o_rules_asked_words 16 o_x_o_rules_asked_words, O_Pi a_o_rules_forbidden a_o_rules_forbidden_words, A_J dA a_o_rules_forbidden_words 16 o_x_o_rules_forbidden_words, O_La a_o_rules_law a_o_rules_law_code x_o_rules_law_length a_o_rules_law_stack o_x_o_rules_law_top, A_I dA a_o_rules_law_code 256 x_o_rules_law_code, A_I dA a_o_rules_law_stack 256 o_x_o_rules_law_stack, A_I dA a_o_thought_way 15 o_x_o_thought_way, A_I dA a_o_thought_best 15 o_x_o_thought_best]) := by
  refine ct_intro "OneLamp" rfl (by decide +kernel) (Nat.le_of_ble_eq_true rfl) [(0, .ref a_o), (1, .int p1)] rfl (fun _ C => ?_)
  unfold f_OL_longest at hf
  refine g_iload_n (pc' := 1) C 1 d_OL_longest_0 rfl rfl ?_
  refine g_iconst (pc' := 2) (v := (-1)) C d_OL_longest_1 rfl rfl ?_
  refine g_icmp_ge (pc' := 5) (tgt := 7) C d_OL_longest_2 rfl rfl (fun h => ?_) (fun h => ?_)
  · replace hf := g_ip h hf
    refine g_aload_n (pc' := 8) C 0 d_OL_longest_7 rfl rfl ?_
    refine g_get (pc' := 11) C kf_OL 0 mw_2_44 d_OL_longest_8 rfl 0 rfl (by decide) rfl ?_
    refine g_get (pc' := 14) C kf_Wa 0 mw_1_64 d_OL_longest_11 rfl 1 rfl (by decide) rfl ?_
    refine g_iconst (pc' := 15) (v := 4) C d_OL_longest_14 rfl rfl ?_
    refine g_icmp_le (pc' := 18) (tgt := 21) C d_OL_longest_15 rfl rfl (fun h => ?_) (fun h => ?_)
    · replace hf := g_ip h hf
      refine g_aload_n (pc' := 22) C 0 d_OL_longest_21 rfl rfl ?_
      refine g_get (pc' := 25) C kf_OL 6 mw_2_50 d_OL_longest_22 rfl 0 rfl (by decide) rfl ?_
      refine g_aload_n (pc' := 26) C 0 d_OL_longest_25 rfl rfl ?_
      refine g_get (pc' := 29) C kf_OL 0 mw_2_44 d_OL_longest_26 rfl 0 rfl (by decide) rfl ?_
      refine g_aload_n (pc' := 30) C 0 d_OL_longest_29 rfl rfl ?_
      refine g_get (pc' := 33) C kf_OL 3 mw_2_47 d_OL_longest_30 rfl 0 rfl (by decide) rfl ?_
      replace hf := g_bi hf; obtain ⟨⟨r1, u2, u3, u4, u5, u6, u7, u8, u9, u10, u11, u12, u13, u14, u15, u16, u17, u18⟩, hc19, hf⟩ := hf
      dsimp only at hf
      refine g_callV (pc' := 36) (st1 := [.int r1]) (ws1 := [O_OL a_o a_o_wall a_o_imageOfWall x_o_imageIsKept a_o_rules a_o_tape a_o_costs a_o_thought a_o_acts a_o_shelves, O_Wa a_o_wall x_o_wall_lamps x_o_wall_picture x_o_wall_night x_o_wall_spent a_o_wall_had a_o_wall_told a_o_wall_last a_o_wall_often, O_Th a_o_thought a_o_thought_wall a_o_thought_way a_o_thought_best u2 u3 x_o_thought_found, O_Wa a_o_thought_wall u4 u5 u6 u7 a_o_thought_wall_had a_o_thought_wall_told a_o_thought_wall_last a_o_thought_wall_often, O_Pi a_o_wall_had a_o_wall_had_words, O_Pi a_o_thought_wall_had a_o_thought_wall_had_words, A_J dA a_o_thought_wall_had_words 16 u8, A_J dA a_o_wall_had_words 16 x_o_wall_had_words, O_Pi a_o_wall_told a_o_wall_told_words, O_Pi a_o_thought_wall_told a_o_thought_wall_told_words, A_J dA a_o_thought_wall_told_words 16 u9, A_J dA a_o_wall_told_words 16 x_o_wall_told_words, A_I dA a_o_wall_last 10 x_o_wall_last, A_I dA a_o_thought_wall_last 10 u10, A_I dA a_o_wall_often 10 x_o_wall_often, A_I dA a_o_thought_wall_often 10 u11, O_Ru a_o_rules x_o_rules_rest x_o_rules_shy a_o_rules_law a_o_rules_asked a_o_rules_forbidden u12, O_Pi a_o_rules_asked a_o_rules_asked_words, A_J dA a_o_rules_asked_words 16 u13, O_Pi a_o_rules_forbidden a_o_rules_forbidden_words, A_J dA a_o_rules_forbidden_words 16 u14, O_La a_o_rules_law a_o_rules_law_code x_o_rules_law_length a_o_rules_law_stack u15, A_I dA a_o_rules_law_code 256 x_o_rules_law_code, A_I dA a_o_rules_law_stack 256 u16, A_I dA a_o_thought_way 15 u17, A_I dA a_o_thought_best 15 u18]) C (c_Th_longestFrom (l := l) (D := D) (dA := dA) (a_o := a_o_thought) (a_p1 := a_o_wall) (a_p2 := a_o_rules) (a_o_wall := a_o_thought_wall) (a_o_way := a_o_thought_way) (a_o_best := a_o_thought_best) (a_p1_had := a_o_wall_had) (a_p1_told := a_o_wall_told) (a_p1_last := a_o_wall_last) (a_p1_often := a_o_wall_often) (a_o_wall_had := a_o_thought_wall_had) (a_o_wall_told := a_o_thought_wall_told) (a_o_wall_last := a_o_thought_wall_last) (a_o_wall_often := a_o_thought_wall_often) (a_p1_had_words := a_o_wall_had_words) (a_o_wall_had_words := a_o_thought_wall_had_words) (a_p1_told_words := a_o_wall_told_words) (a_o_wall_told_words := a_o_thought_wall_told_words) (a_p2_law := a_o_rules_law) (a_p2_asked := a_o_rules_asked) (a_p2_forbidden := a_o_rules_forbidden) (a_p2_asked_words := a_o_rules_asked_words) (a_p2_forbidden_words := a_o_rules_forbidden_words) (a_p2_law_code := a_o_rules_law_code) (a_p2_law_stack := a_o_rules_law_stack) (x_o_found := x_o_thought_found)   hc19) yy_Th_longestFrom kf_Th rfl mw_3_79 d_OL_longest_33 rfl [] rfl rfl (Nat.le_of_ble_eq_true rfl) ⟨Nat.le_of_ble_eq_true rfl, Nat.le_of_ble_eq_true rfl⟩ rfl rfl (Nat.zero_le _) (Nat.zero_le _) 2 rfl [2, 1, 3, 4, 5, 6, 7, 8, 9, 10, 11, 12, 13, 14, 15, 16, 17, 18, 19, 20, 21, 22, 23, 24, 25] rfl (by decide +kernel) rfl (g_lay_sel _ _ _ _ [(0, false), (1, true), (0, true), (2, true), (3, true), (4, true), (5, true), (6, true), (7, true), (8, true), (9, true), (10, true), (11, true), (12, true), (13, true), (14, true), (15, true), (16, true), (17, true), (18, true), (19, true), (20, true), (21, true), (22, true), (23, true), (24, true)] (by decide +kernel) rfl (by decide +kernel) rfl rfl) rfl ?_
      refine g_istore_n (pc' := 37) (lv' := [(2, .int r1), (0, .ref a_o), (1, .int p1)]) C d_OL_longest_36 rfl (by decide) rfl ?_
      refine g_iload_n (pc' := 38) C 2 d_OL_longest_37 rfl rfl ?_
      refine g_iconst (pc' := 39) (v := (-1)) C d_OL_longest_38 rfl rfl ?_
      refine g_icmp_ne (pc' := 42) (tgt := 44) C d_OL_longest_39 rfl rfl (fun h => ?_) (fun h => ?_)
      · replace hf := g_in h hf
        refine g_iload_n (pc' := 45) C 2 d_OL_longest_44 rfl rfl ?_
        refine g_iload_n (pc' := 46) C 0 d_OL_longest_45 rfl rfl ?_
        refine g_icmp_ge (pc' := 49) (tgt := 60) C d_OL_longest_46 rfl rfl (fun h => ?_) (fun h => ?_)
        · replace hf := g_ip h hf
          refine g_iconst (pc' := 61) (v := (-1)) C d_OL_longest_60 rfl rfl ?_
          replace hf := g_o2 hf; obtain ⟨h1, hf⟩ := hf; subst h1
          replace hf := g_o2 hf; obtain ⟨h1, hf⟩ := hf; subst h1
          replace hf := g_o2 hf; obtain ⟨h1, hf⟩ := hf; subst h1
          replace hf := g_o2 hf; obtain ⟨h1, hf⟩ := hf; subst h1
          replace hf := g_o2 hf; obtain ⟨h1, hf⟩ := hf; subst h1
          replace hf := g_o2 hf; obtain ⟨h1, hf⟩ := hf; subst h1
          replace hf := g_o2 hf; obtain ⟨h1, hf⟩ := hf; subst h1
          replace hf := g_o2 hf; obtain ⟨h1, hf⟩ := hf; subst h1
          replace hf := g_o2 hf; obtain ⟨h1, hf⟩ := hf; subst h1
          replace hf := g_o2 hf; obtain ⟨h1, hf⟩ := hf; subst h1
          replace hf := g_o2 hf; obtain ⟨h1, hf⟩ := hf; subst h1
          replace hf := g_o2 hf; obtain ⟨h1, hf⟩ := hf; subst h1
          replace hf := g_o2 hf; obtain ⟨h1, hf⟩ := hf; subst h1
          replace hf := g_o2 hf; obtain ⟨h1, hf⟩ := hf; subst h1
          replace hf := g_o2 hf; obtain ⟨h1, hf⟩ := hf; subst h1
          replace hf := g_o2 hf; obtain ⟨h1, hf⟩ := hf; subst h1
          replace hf := g_o2 hf; obtain ⟨h1, hf⟩ := hf; subst h1
          replace hf := Option.some.inj hf; subst hf
          exact g_iret C d_OL_longest_61 () rfl
        · replace hf := g_in h hf
          refine g_aload_n (pc' := 50) C 1 d_OL_longest_49 rfl rfl ?_
          refine g_get (pc' := 53) C kf_OL 6 mw_2_50 d_OL_longest_50 rfl 0 rfl (by decide) rfl ?_
          refine g_iload_n (pc' := 54) C 2 d_OL_longest_53 rfl rfl ?_
          replace hf := g_bi hf; obtain ⟨r20, hc21, hf⟩ := hf
          refine g_callV (pc' := 57) (st1 := [.int r20]) (ws1 := [O_OL a_o a_o_wall a_o_imageOfWall x_o_imageIsKept a_o_rules a_o_tape a_o_costs a_o_thought a_o_acts a_o_shelves, O_Wa a_o_wall x_o_wall_lamps x_o_wall_picture x_o_wall_night x_o_wall_spent a_o_wall_had a_o_wall_told a_o_wall_last a_o_wall_often, O_Th a_o_thought a_o_thought_wall a_o_thought_way a_o_thought_best u2 u3 x_o_thought_found, O_Wa a_o_thought_wall u4 u5 u6 u7 a_o_thought_wall_had a_o_thought_wall_told a_o_thought_wall_last a_o_thought_wall_often, O_Pi a_o_wall_had a_o_wall_had_words, O_Pi a_o_thought_wall_had a_o_thought_wall_had_words, A_J dA a_o_thought_wall_had_words 16 u8, A_J dA a_o_wall_had_words 16 x_o_wall_had_words, O_Pi a_o_wall_told a_o_wall_told_words, O_Pi a_o_thought_wall_told a_o_thought_wall_told_words, A_J dA a_o_thought_wall_told_words 16 u9, A_J dA a_o_wall_told_words 16 x_o_wall_told_words, A_I dA a_o_wall_last 10 x_o_wall_last, A_I dA a_o_thought_wall_last 10 u10, A_I dA a_o_wall_often 10 x_o_wall_often, A_I dA a_o_thought_wall_often 10 u11, O_Ru a_o_rules x_o_rules_rest x_o_rules_shy a_o_rules_law a_o_rules_asked a_o_rules_forbidden u12, O_Pi a_o_rules_asked a_o_rules_asked_words, A_J dA a_o_rules_asked_words 16 u13, O_Pi a_o_rules_forbidden a_o_rules_forbidden_words, A_J dA a_o_rules_forbidden_words 16 u14, O_La a_o_rules_law a_o_rules_law_code x_o_rules_law_length a_o_rules_law_stack u15, A_I dA a_o_rules_law_code 256 x_o_rules_law_code, A_I dA a_o_rules_law_stack 256 u16, A_I dA a_o_thought_way 15 u17, A_I dA a_o_thought_best 15 u18]) C (c_Th_lampOfBest (l := l) (D := D) (dA := dA) (a_o := a_o_thought) (a_o_wall := a_o_thought_wall) (a_o_way := a_o_thought_way) (a_o_best := a_o_thought_best) (x_o_open := u3) (x_o_found := x_o_thought_found)   hc21) yy_Th_lampOfBest kf_Th rfl mw_3_130 d_OL_longest_54 rfl [] rfl rfl (Nat.le_of_ble_eq_true rfl) ⟨Nat.le_of_ble_eq_true rfl, Nat.le_of_ble_eq_true rfl⟩ rfl rfl (Nat.zero_le _) (Nat.zero_le _) 2 rfl [2, 25] rfl (by decide +kernel) rfl (g_lay_sel _ _ _ _ [(0, false), (1, false), (0, true), (3, false), (4, false), (5, false), (6, false), (7, false), (8, false), (9, false), (10, false), (11, false), (12, false), (13, false), (14, false), (15, false), (16, false), (17, false), (18, false), (19, false), (20, false), (21, false), (22, false), (23, false), (24, false), (1, true)] (by decide +kernel) rfl (by decide +kernel) rfl rfl) rfl ?_
          refine g_goto (tgt := 61) C d_OL_longest_57 rfl ?_
          replace hf := g_o2 hf; obtain ⟨h1, hf⟩ := hf; subst h1
          replace hf := g_o2 hf; obtain ⟨h1, hf⟩ := hf; subst h1
          replace hf := g_o2 hf; obtain ⟨h1, hf⟩ := hf; subst h1
          replace hf := g_o2 hf; obtain ⟨h1, hf⟩ := hf; subst h1
          replace hf := g_o2 hf; obtain ⟨h1, hf⟩ := hf; subst h1
          replace hf := g_o2 hf; obtain ⟨h1, hf⟩ := hf; subst h1
          replace hf := g_o2 hf; obtain ⟨h1, hf⟩ := hf; subst h1
          replace hf := g_o2 hf; obtain ⟨h1, hf⟩ := hf; subst h1
          replace hf := g_o2 hf; obtain ⟨h1, hf⟩ := hf; subst h1
          replace hf := g_o2 hf; obtain ⟨h1, hf⟩ := hf; subst h1
          replace hf := g_o2 hf; obtain ⟨h1, hf⟩ := hf; subst h1
          replace hf := g_o2 hf; obtain ⟨h1, hf⟩ := hf; subst h1
          replace hf := g_o2 hf; obtain ⟨h1, hf⟩ := hf; subst h1
          replace hf := g_o2 hf; obtain ⟨h1, hf⟩ := hf; subst h1
          replace hf := g_o2 hf; obtain ⟨h1, hf⟩ := hf; subst h1
          replace hf := g_o2 hf; obtain ⟨h1, hf⟩ := hf; subst h1
          replace hf := g_o2 hf; obtain ⟨h1, hf⟩ := hf; subst h1
          replace hf := Option.some.inj hf; subst hf
          exact g_iret C d_OL_longest_61 () rfl
      · replace hf := g_ip h hf
        refine g_iload_n (pc' := 43) C 0 d_OL_longest_42 rfl rfl ?_
        replace hf := g_o2 hf; obtain ⟨h1, hf⟩ := hf; subst h1
        replace hf := g_o2 hf; obtain ⟨h1, hf⟩ := hf; subst h1
        replace hf := g_o2 hf; obtain ⟨h1, hf⟩ := hf; subst h1
        replace hf := g_o2 hf; obtain ⟨h1, hf⟩ := hf; subst h1
        replace hf := g_o2 hf; obtain ⟨h1, hf⟩ := hf; subst h1
        replace hf := g_o2 hf; obtain ⟨h1, hf⟩ := hf; subst h1
        replace hf := g_o2 hf; obtain ⟨h1, hf⟩ := hf; subst h1
        replace hf := g_o2 hf; obtain ⟨h1, hf⟩ := hf; subst h1
        replace hf := g_o2 hf; obtain ⟨h1, hf⟩ := hf; subst h1
        replace hf := g_o2 hf; obtain ⟨h1, hf⟩ := hf; subst h1
        replace hf := g_o2 hf; obtain ⟨h1, hf⟩ := hf; subst h1
        replace hf := g_o2 hf; obtain ⟨h1, hf⟩ := hf; subst h1
        replace hf := g_o2 hf; obtain ⟨h1, hf⟩ := hf; subst h1
        replace hf := g_o2 hf; obtain ⟨h1, hf⟩ := hf; subst h1
        replace hf := g_o2 hf; obtain ⟨h1, hf⟩ := hf; subst h1
        replace hf := g_o2 hf; obtain ⟨h1, hf⟩ := hf; subst h1
        replace hf := g_o2 hf; obtain ⟨h1, hf⟩ := hf; subst h1
        replace hf := Option.some.inj hf; subst hf
        exact g_iret C d_OL_longest_43 () rfl
    · replace hf := g_in h hf
      refine g_bipush (pc' := 20) (v := (-5)) C d_OL_longest_18 rfl rfl ?_
      replace hf := g_o2 hf; obtain ⟨h1, hf⟩ := hf; subst h1
      replace hf := g_o2 hf; obtain ⟨h1, hf⟩ := hf; subst h1
      replace hf := g_o2 hf; obtain ⟨h1, hf⟩ := hf; subst h1
      replace hf := g_o2 hf; obtain ⟨h1, hf⟩ := hf; subst h1
      replace hf := g_o2 hf; obtain ⟨h1, hf⟩ := hf; subst h1
      replace hf := g_o2 hf; obtain ⟨h1, hf⟩ := hf; subst h1
      replace hf := g_o2 hf; obtain ⟨h1, hf⟩ := hf; subst h1
      replace hf := g_o2 hf; obtain ⟨h1, hf⟩ := hf; subst h1
      replace hf := g_o2 hf; obtain ⟨h1, hf⟩ := hf; subst h1
      replace hf := g_o2 hf; obtain ⟨h1, hf⟩ := hf; subst h1
      replace hf := g_o2 hf; obtain ⟨h1, hf⟩ := hf; subst h1
      replace hf := g_o2 hf; obtain ⟨h1, hf⟩ := hf; subst h1
      replace hf := g_o2 hf; obtain ⟨h1, hf⟩ := hf; subst h1
      replace hf := g_o2 hf; obtain ⟨h1, hf⟩ := hf; subst h1
      replace hf := g_o2 hf; obtain ⟨h1, hf⟩ := hf; subst h1
      replace hf := g_o2 hf; obtain ⟨h1, hf⟩ := hf; subst h1
      replace hf := g_o2 hf; obtain ⟨h1, hf⟩ := hf; subst h1
      replace hf := Option.some.inj hf; subst hf
      exact g_iret C d_OL_longest_20 () rfl
  · replace hf := g_in h hf
    refine g_iconst (pc' := 6) (v := (-1)) C d_OL_longest_5 rfl rfl ?_
    replace hf := g_o2 hf; obtain ⟨h1, hf⟩ := hf; subst h1
    replace hf := g_o2 hf; obtain ⟨h1, hf⟩ := hf; subst h1
    replace hf := g_o2 hf; obtain ⟨h1, hf⟩ := hf; subst h1
    replace hf := g_o2 hf; obtain ⟨h1, hf⟩ := hf; subst h1
    replace hf := g_o2 hf; obtain ⟨h1, hf⟩ := hf; subst h1
    replace hf := g_o2 hf; obtain ⟨h1, hf⟩ := hf; subst h1
    replace hf := g_o2 hf; obtain ⟨h1, hf⟩ := hf; subst h1
    replace hf := g_o2 hf; obtain ⟨h1, hf⟩ := hf; subst h1
    replace hf := g_o2 hf; obtain ⟨h1, hf⟩ := hf; subst h1
    replace hf := g_o2 hf; obtain ⟨h1, hf⟩ := hf; subst h1
    replace hf := g_o2 hf; obtain ⟨h1, hf⟩ := hf; subst h1
    replace hf := g_o2 hf; obtain ⟨h1, hf⟩ := hf; subst h1
    replace hf := g_o2 hf; obtain ⟨h1, hf⟩ := hf; subst h1
    replace hf := g_o2 hf; obtain ⟨h1, hf⟩ := hf; subst h1
    replace hf := g_o2 hf; obtain ⟨h1, hf⟩ := hf; subst h1
    replace hf := g_o2 hf; obtain ⟨h1, hf⟩ := hf; subst h1
    replace hf := g_o2 hf; obtain ⟨h1, hf⟩ := hf; subst h1
    replace hf := Option.some.inj hf; subst hf
    exact g_iret C d_OL_longest_6 () rfl
def y_OL_wished : MethodName := ⟨"OneLamp", "wished", "(I)I"⟩
theorem yy_OL_wished : YV y_OL_wished prog_1_method_16_code 2 (some .int) 1 := ⟨mw_3_137, mw_1_1, mw_3_135, mw_3_136, by decide +kernel, by decide +kernel, by decide +kernel⟩
theorem d_OL_wished_0 : decode prog_1_method_16_code 0 = .ok (.iload_n 1, 1) := by decide +kernel
theorem d_OL_wished_1 : decode prog_1_method_16_code 1 = .ok (.ifCond .lt 9, 3) := by decide +kernel
theorem d_OL_wished_4 : decode prog_1_method_16_code 4 = .ok (.iload_n 1, 1) := by decide +kernel
theorem d_OL_wished_5 : decode prog_1_method_16_code 5 = .ok (.bipush 15, 2) := by decide +kernel
theorem d_OL_wished_7 : decode prog_1_method_16_code 7 = .ok (.if_icmp .le 5, 3) := by decide +kernel
theorem d_OL_wished_10 : decode prog_1_method_16_code 10 = .ok (.iconst (-1), 1) := by decide +kernel
theorem d_OL_wished_11 : decode prog_1_method_16_code 11 = .ok (.ireturn, 1) := by decide +kernel
theorem d_OL_wished_12 : decode prog_1_method_16_code 12 = .ok (.aload_n 0, 1) := by decide +kernel
theorem d_OL_wished_13 : decode prog_1_method_16_code 13 = .ok (.getfield 10, 3) := by decide +kernel
theorem d_OL_wished_16 : decode prog_1_method_16_code 16 = .ok (.getfield 61, 3) := by decide +kernel
theorem d_OL_wished_19 : decode prog_1_method_16_code 19 = .ok (.iconst 4, 1) := by decide +kernel
theorem d_OL_wished_20 : decode prog_1_method_16_code 20 = .ok (.if_icmp .le 6, 3) := by decide +kernel
theorem d_OL_wished_23 : decode prog_1_method_16_code 23 = .ok (.bipush (-5), 2) := by decide +kernel
theorem d_OL_wished_25 : decode prog_1_method_16_code 25 = .ok (.ireturn, 1) := by decide +kernel
theorem d_OL_wished_26 : decode prog_1_method_16_code 26 = .ok (.aload_n 0, 1) := by decide +kernel
theorem d_OL_wished_27 : decode prog_1_method_16_code 27 = .ok (.getfield 43, 3) := by decide +kernel
theorem d_OL_wished_30 : decode prog_1_method_16_code 30 = .ok (.aload_n 0, 1) := by decide +kernel
theorem d_OL_wished_31 : decode prog_1_method_16_code 31 = .ok (.getfield 10, 3) := by decide +kernel
theorem d_OL_wished_34 : decode prog_1_method_16_code 34 = .ok (.aload_n 0, 1) := by decide +kernel
theorem d_OL_wished_35 : decode prog_1_method_16_code 35 = .ok (.getfield 22, 3) := by decide +kernel
theorem d_OL_wished_38 : decode prog_1_method_16_code 38 = .ok (.iload_n 1, 1) := by decide +kernel
theorem d_OL_wished_39 : decode prog_1_method_16_code 39 = .ok (.invokevirtual 186, 3) := by decide +kernel
theorem d_OL_wished_42 : decode prog_1_method_16_code 42 = .ok (.ireturn, 1) := by decide +kernel
def f_OL_wished  (p1 : Int32) (x_o_wall_lamps : Int32) (x_o_wall_picture : Int32) (x_o_wall_night : Int32) (x_o_wall_spent : Int32) (x_o_thought_open : Int32) (x_o_thought_found : Int32) (x_o_thought_wall_lamps : Int32) (x_o_thought_wall_picture : Int32) (x_o_thought_wall_night : Int32) (x_o_thought_wall_spent : Int32) (x_o_thought_wall_had_words : Nat → Int64) (x_o_wall_had_words : Nat → Int64) (x_o_thought_wall_told_words : Nat → Int64) (x_o_wall_told_words : Nat → Int64) (x_o_wall_last : Nat → Int32) (x_o_thought_wall_last : Nat → Int32) (x_o_wall_often : Nat → Int32) (x_o_thought_wall_often : Nat → Int32) (x_o_rules_rest : Int32) (x_o_rules_shy : Int32) (x_o_rules_askedForLamps : Int32) (x_o_rules_asked_words : Nat → Int64) (x_o_rules_forbidden_words : Nat → Int64) (x_o_rules_law_length : Int32) (x_o_rules_law_top : Int32) (x_o_rules_law_code : Nat → Int32) (x_o_rules_law_stack : Nat → Int32) : Option (Int32 × Int32 × Int32 × Int32 × Int32 × Int32 × Int32 × (Nat → Int64) × (Nat → Int64) × (Nat → Int32) × (Nat → Int32) × Int32 × (Nat → Int64) × (Nat → Int64) × Int32 × (Nat → Int32)) :=
  if p1 < 0 then
    (some ((-1 : Int32), x_o_thought_open, x_o_thought_found, x_o_thought_wall_lamps, x_o_thought_wall_picture, x_o_thought_wall_night, x_o_thought_wall_spent, x_o_thought_wall_had_words, x_o_thought_wall_told_words, x_o_thought_wall_last, x_o_thought_wall_often, x_o_rules_askedForLamps, x_o_rules_asked_words, x_o_rules_forbidden_words, x_o_rules_law_top, x_o_rules_law_stack))
  else
    (if p1 ≤ (15 : Int32) then
      (if x_o_wall_lamps ≤ (4 : Int32) then
        ((f_Th_wishedFrom  p1 x_o_thought_open x_o_thought_found x_o_wall_lamps x_o_wall_picture x_o_wall_night x_o_wall_spent x_o_thought_wall_lamps x_o_thought_wall_picture x_o_thought_wall_night x_o_thought_wall_spent x_o_thought_wall_had_words x_o_wall_had_words x_o_thought_wall_told_words x_o_wall_told_words x_o_wall_last x_o_thought_wall_last x_o_wall_often x_o_thought_wall_often x_o_rules_rest x_o_rules_shy x_o_rules_askedForLamps x_o_rules_asked_words x_o_rules_forbidden_words x_o_rules_law_length x_o_rules_law_top x_o_rules_law_code x_o_rules_law_stack).bind fun (r1, u2, u3, u4, u5, u6, u7, u8, u9, u10, u11, u12, u13, u14, u15, u16) =>
        some (r1, u2, u3, u4, u5, u6, u7, u8, u9, u10, u11, u12, u13, u14, u15, u16))
      else
        (some ((-5 : Int32), x_o_thought_open, x_o_thought_found, x_o_thought_wall_lamps, x_o_thought_wall_picture, x_o_thought_wall_night, x_o_thought_wall_spent, x_o_thought_wall_had_words, x_o_thought_wall_told_words, x_o_thought_wall_last, x_o_thought_wall_often, x_o_rules_askedForLamps, x_o_rules_asked_words, x_o_rules_forbidden_words, x_o_rules_law_top, x_o_rules_law_stack)))
    else
      (some ((-1 : Int32), x_o_thought_open, x_o_thought_found, x_o_thought_wall_lamps, x_o_thought_wall_picture, x_o_thought_wall_night, x_o_thought_wall_spent, x_o_thought_wall_had_words, x_o_thought_wall_told_words, x_o_thought_wall_last, x_o_thought_wall_often, x_o_rules_askedForLamps, x_o_rules_asked_words, x_o_rules_forbidden_words, x_o_rules_law_top, x_o_rules_law_stack)))
set_option maxRecDepth 20000 in
theorem c_OL_wished {l : Launch} {D : va_G} {dA : Nat → ClassId} {a_o a_o_wall a_o_imageOfWall a_o_rules a_o_tape a_o_costs a_o_thought a_o_acts a_o_shelves a_o_wall_had a_o_wall_told a_o_wall_last a_o_wall_often a_o_thought_wall a_o_thought_way a_o_thought_best a_o_thought_wall_had a_o_thought_wall_told a_o_thought_wall_last a_o_thought_wall_often a_o_wall_had_words a_o_thought_wall_had_words a_o_wall_told_words a_o_thought_wall_told_words a_o_rules_law a_o_rules_asked a_o_rules_forbidden a_o_rules_asked_words a_o_rules_forbidden_words a_o_rules_law_code a_o_rules_law_stack : Nat} {x_o_imageIsKept : Bool} {x_o_thought_bestLength : Int32} {p1 : Int32} {x_o_wall_lamps : Int32} {x_o_wall_picture : Int32} {x_o_wall_night : Int32} {x_o_wall_spent : Int32} {x_o_thought_open : Int32} {x_o_thought_found : Int32} {x_o_thought_wall_lamps : Int32} {x_o_thought_wall_picture : Int32} {x_o_thought_wall_night : Int32} {x_o_thought_wall_spent : Int32} {x_o_thought_wall_had_words : Nat → Int64} {x_o_wall_had_words : Nat → Int64} {x_o_thought_wall_told_words : Nat → Int64} {x_o_wall_told_words : Nat → Int64} {x_o_wall_last : Nat → Int32} {x_o_thought_wall_last : Nat → Int32} {x_o_wall_often : Nat → Int32} {x_o_thought_wall_often : Nat → Int32} {x_o_rules_rest : Int32} {x_o_rules_shy : Int32} {x_o_rules_askedForLamps : Int32} {x_o_rules_asked_words : Nat → Int64} {x_o_rules_forbidden_words : Nat → Int64} {x_o_rules_law_length : Int32} {x_o_rules_law_top : Int32} {x_o_rules_law_code : Nat → Int32} {x_o_rules_law_stack : Nat → Int32} {r0 : Int32} {o_x_o_thought_open : Int32} {o_x_o_thought_found : Int32} {o_x_o_thought_wall_lamps : Int32} {o_x_o_thought_wall_picture : Int32} {o_x_o_thought_wall_night : Int32} {o_x_o_thought_wall_spent : Int32} {o_x_o_thought_wall_had_words : Nat → Int64} {o_x_o_thought_wall_told_words : Nat → Int64} {o_x_o_thought_wall_last : Nat → Int32} {o_x_o_thought_wall_often : Nat → Int32} {o_x_o_rules_askedForLamps : Int32} {o_x_o_rules_asked_words : Nat → Int64} {o_x_o_rules_forbidden_words : Nat → Int64} {o_x_o_rules_law_top : Int32} {o_x_o_rules_law_stack : Nat → Int32}   (hf : f_OL_wished  p1 x_o_wall_lamps x_o_wall_picture x_o_wall_night x_o_wall_spent x_o_thought_open x_o_thought_found x_o_thought_wall_lamps x_o_thought_wall_picture x_o_thought_wall_night x_o_thought_wall_spent x_o_thought_wall_had_words x_o_wall_had_words x_o_thought_wall_told_words x_o_wall_told_words x_o_wall_last x_o_thought_wall_last x_o_wall_often x_o_thought_wall_often x_o_rules_rest x_o_rules_shy x_o_rules_askedForLamps x_o_rules_asked_words x_o_rules_forbidden_words x_o_rules_law_length x_o_rules_law_top x_o_rules_law_code x_o_rules_law_stack = some (r0, o_x_o_thought_open, o_x_o_thought_found, o_x_o_thought_wall_lamps, o_x_o_thought_wall_picture, o_x_o_thought_wall_night, o_x_o_thought_wall_spent, o_x_o_thought_wall_had_words, o_x_o_thought_wall_told_words, o_x_o_thought_wall_last, o_x_o_thought_wall_often, o_x_o_rules_askedForLamps, o_x_o_rules_asked_words, o_x_o_rules_forbidden_words, o_x_o_rules_law_top, o_x_o_rules_law_stack)) : CT l y_OL_wished prog_1_method_16_code 2 (some .int) { frames := 102, cells := 0, slots := 0, locals := 2347 } D dA [.ref a_o, .int p1] [O_OL a_o a_o_wall a_o_imageOfWall x_o_imageIsKept a_o_rules a_o_tape a_o_costs a_o_thought a_o_acts a_o_shelves, O_Wa a_o_wall x_o_wall_lamps x_o_wall_picture x_o_wall_night x_o_wall_spent a_o_wall_had a_o_wall_told a_o_wall_last a_o_wall_often, O_Th a_o_thought a_o_thought_wall a_o_thought_way a_o_thought_best x_o_thought_bestLength x_o_thought_open x_o_thought_found, O_Wa a_o_thought_wall x_o_thought_wall_lamps x_o_thought_wall_picture x_o_thought_wall_night x_o_thought_wall_spent a_o_thought_wall_had a_o_thought_wall_told a_o_thought_wall_last a_o_thought_wall_often, O_Pi a_o_wall_had a_o_wall_had_words, O_Pi a_o_thought_wall_had a_o_thought_wall_had_words, A_J dA a_o_thought_wall_had_words 16 x_o_thought_wall_had_words, A_J dA a_o_wall_had_words 16 x_o_wall_had_words, O_Pi a_o_wall_told a_o_wall_told_words, O_Pi a_o_thought_wall_told a_o_thought_wall_told_words, A_J dA a_o_thought_wall_told_words 16 x_o_thought_wall_told_words, A_J dA a_o_wall_told_words 16 x_o_wall_told_words, A_I dA a_o_wall_last 10 x_o_wall_last, A_I dA a_o_thought_wall_last 10 x_o_thought_wall_last, A_I dA a_o_wall_often 10 x_o_wall_often, A_I dA a_o_thought_wall_often 10 x_o_thought_wall_often, O_Ru a_o_rules x_o_rules_rest x_o_rules_shy a_o_rules_law a_o_rules_asked a_o_rules_forbidden x_o_rules_askedForLamps, O_Pi a_o_rules_asked a_o_rules_asked_words, A_J dA a_o_rules_asked_words 16 x_o_rules_asked_words, O_Pi a_o_rules_forbidden a_o_rules_forbidden_words, A_J dA a_o_rules_forbidden_words 16 x_o_rules_forbidden_words, O_La a_o_rules_law a_o_rules_law_code x_o_rules_law_length a_o_rules_law_stack x_o_rules_law_top, A_I dA a_o_rules_law_code 256 x_o_rules_law_code, A_I dA a_o_rules_law_stack 256 x_o_rules_law_stack] (some (.int r0)) (fun _ : Unit => [O_OL a_o a_o_wall a_o_imageOfWall x_o_imageIsKept a_o_rules a_o_tape a_o_costs a_o_thought a_o_acts a_o_shelves, O_Wa a_o_wall x_o_wall_lamps x_o_wall_picture x_o_wall_night x_o_wall_spent a_o_wall_had a_o_wall_told a_o_wall_last a_o_wall_often, O_Th a_o_thought a_o_thought_wall a_o_thought_way a_o_thought_best x_o_thought_bestLength o_x_o_thought_open o_x_o_thought_found, O_Wa a_o_thought_wall o_x_o_thought_wall_lamps o_x_o_thought_wall_picture o_x_o_thought_wall_night o_x_o_thought_wall_spent a_o_thought_wall_had a_o_thought_wall_told a_o_thought_wall_last a_o_thought_wall_often, O_Pi a_o_wall_had a_o_wall_had_words, O_Pi a_o_thought_wall_had a_o_thought_wall_had_words, A_J dA a_o_thought_wall_had_words 16 o_x_o_thought_wall_had_words, A_J dA a_o_wall_had_words 16 x_o_wall_had_words, O_Pi a_o_wall_told a_o_wall_told_words, O_Pi a_o_thought_wall_told a_o_thought_wall_told_words, A_J dA a_o_thought_wall_told_words 16 o_x_o_thought_wall_told_words, A_J dA a_o_wall_told_words 16 x_o_wall_told_words, A_I dA a_o_wall_last 10 x_o_wall_last, A_I dA a_o_thought_wall_last 10 o_x_o_thought_wall_last, A_I dA a_o_wall_often 10 x_o_wall_often, A_I dA a_o_thought_wall_often 10 o_x_o_thought_wall_often, O_Ru a_o_rules x_o_rules_rest x_o_rules_shy a_o_rules_law a_o_rules_asked a_o_rules_forbidden o_x_o_rules_askedForLamps, O_Pi a_o_rules_asked a_o_rules_asked_words, A_J dA a_o_rules_asked_words 16 o_x_o_rules_asked_words, O_Pi a_o_rules_forbidden a_o_rules_forbidden_words, A_J dA a_o_rules_forbidden_words 16 o_x_o_rules_forbidden_words, O_La a_o_rules_law a_o_rules_law_code x_o_rules_law_length a_o_rules_law_stack o_x_o_rules_law_top, A_I dA a_o_rules_law_code 256 x_o_rules_law_code, A_I dA a_o_rules_law_stack 256 o_x_o_rules_law_stack]) := by
  refine ct_intro "OneLamp" rfl (by decide +kernel) (Nat.le_of_ble_eq_true rfl) [(0, .ref a_o), (1, .int p1)] rfl (fun _ C => ?_)
  unfold f_OL_wished at hf
  refine g_iload_n (pc' := 1) C 1 d_OL_wished_0 rfl rfl ?_
  refine g_if_lt (pc' := 4) (tgt := 10) C d_OL_wished_1 rfl rfl (fun h => ?_) (fun h => ?_)
  · replace hf := g_ip h hf
    refine g_iconst (pc' := 11) (v := (-1)) C d_OL_wished_10 rfl rfl ?_
    replace hf := g_o2 hf; obtain ⟨h1, hf⟩ := hf; subst h1
    replace hf := g_o2 hf; obtain ⟨h1, hf⟩ := hf; subst h1
    replace hf := g_o2 hf; obtain ⟨h1, hf⟩ := hf; subst h1
    replace hf := g_o2 hf; obtain ⟨h1, hf⟩ := hf; subst h1
    replace hf := g_o2 hf; obtain ⟨h1, hf⟩ := hf; subst h1
    replace hf := g_o2 hf; obtain ⟨h1, hf⟩ := hf; subst h1
    replace hf := g_o2 hf; obtain ⟨h1, hf⟩ := hf; subst h1
    replace hf := g_o2 hf; obtain ⟨h1, hf⟩ := hf; subst h1
    replace hf := g_o2 hf; obtain ⟨h1, hf⟩ := hf; subst h1
    replace hf := g_o2 hf; obtain ⟨h1, hf⟩ := hf; subst h1
    replace hf := g_o2 hf; obtain ⟨h1, hf⟩ := hf; subst h1
    replace hf := g_o2 hf; obtain ⟨h1, hf⟩ := hf; subst h1
    replace hf := g_o2 hf; obtain ⟨h1, hf⟩ := hf; subst h1
    replace hf := g_o2 hf; obtain ⟨h1, hf⟩ := hf; subst h1
    replace hf := g_o2 hf; obtain ⟨h1, hf⟩ := hf; subst h1
    replace hf := Option.some.inj hf; subst hf
    exact g_iret C d_OL_wished_11 () rfl
  · replace hf := g_in h hf
    refine g_iload_n (pc' := 5) C 1 d_OL_wished_4 rfl rfl ?_
    refine g_bipush (pc' := 7) (v := 15) C d_OL_wished_5 rfl rfl ?_
    refine g_icmp_le (pc' := 10) (tgt := 12) C d_OL_wished_7 rfl rfl (fun h => ?_) (fun h => ?_)
    · replace hf := g_ip h hf
      refine g_aload_n (pc' := 13) C 0 d_OL_wished_12 rfl rfl ?_
      refine g_get (pc' := 16) C kf_OL 0 mw_2_44 d_OL_wished_13 rfl 0 rfl (by decide) rfl ?_
      refine g_get (pc' := 19) C kf_Wa 0 mw_1_64 d_OL_wished_16 rfl 1 rfl (by decide) rfl ?_
      refine g_iconst (pc' := 20) (v := 4) C d_OL_wished_19 rfl rfl ?_
      refine g_icmp_le (pc' := 23) (tgt := 26) C d_OL_wished_20 rfl rfl (fun h => ?_) (fun h => ?_)
      · replace hf := g_ip h hf
        refine g_aload_n (pc' := 27) C 0 d_OL_wished_26 rfl rfl ?_
        refine g_get (pc' := 30) C kf_OL 6 mw_2_50 d_OL_wished_27 rfl 0 rfl (by decide) rfl ?_
        refine g_aload_n (pc' := 31) C 0 d_OL_wished_30 rfl rfl ?_
        refine g_get (pc' := 34) C kf_OL 0 mw_2_44 d_OL_wished_31 rfl 0 rfl (by decide) rfl ?_
        refine g_aload_n (pc' := 35) C 0 d_OL_wished_34 rfl rfl ?_
        refine g_get (pc' := 38) C kf_OL 3 mw_2_47 d_OL_wished_35 rfl 0 rfl (by decide) rfl ?_
        refine g_iload_n (pc' := 39) C 1 d_OL_wished_38 rfl rfl ?_
        replace hf := g_bi hf; obtain ⟨⟨r1, u2, u3, u4, u5, u6, u7, u8, u9, u10, u11, u12, u13, u14, u15, u16⟩, hc17, hf⟩ := hf
        dsimp only at hf
        refine g_callV (pc' := 42) (st1 := [.int r1]) (ws1 := [O_OL a_o a_o_wall a_o_imageOfWall x_o_imageIsKept a_o_rules a_o_tape a_o_costs a_o_thought a_o_acts a_o_shelves, O_Wa a_o_wall x_o_wall_lamps x_o_wall_picture x_o_wall_night x_o_wall_spent a_o_wall_had a_o_wall_told a_o_wall_last a_o_wall_often, O_Th a_o_thought a_o_thought_wall a_o_thought_way a_o_thought_best x_o_thought_bestLength u2 u3, O_Wa a_o_thought_wall u4 u5 u6 u7 a_o_thought_wall_had a_o_thought_wall_told a_o_thought_wall_last a_o_thought_wall_often, O_Pi a_o_wall_had a_o_wall_had_words, O_Pi a_o_thought_wall_had a_o_thought_wall_had_words, A_J dA a_o_thought_wall_had_words 16 u8, A_J dA a_o_wall_had_words 16 x_o_wall_had_words, O_Pi a_o_wall_told a_o_wall_told_words, O_Pi a_o_thought_wall_told a_o_thought_wall_told_words, A_J dA a_o_thought_wall_told_words 16 u9, A_J dA a_o_wall_told_words 16 x_o_wall_told_words, A_I dA a_o_wall_last 10 x_o_wall_last, A_I dA a_o_thought_wall_last 10 u10, A_I dA a_o_wall_often 10 x_o_wall_often, A_I dA a_o_thought_wall_often 10 u11, O_Ru a_o_rules x_o_rules_rest x_o_rules_shy a_o_rules_law a_o_rules_asked a_o_rules_forbidden u12, O_Pi a_o_rules_asked a_o_rules_asked_words, A_J dA a_o_rules_asked_words 16 u13, O_Pi a_o_rules_forbidden a_o_rules_forbidden_words, A_J dA a_o_rules_forbidden_words 16 u14, O_La a_o_rules_law a_o_rules_law_code x_o_rules_law_length a_o_rules_law_stack u15, A_I dA a_o_rules_law_code 256 x_o_rules_law_code, A_I dA a_o_rules_law_stack 256 u16]) C (c_Th_wishedFrom (l := l) (D := D) (dA := dA) (a_o := a_o_thought) (a_p1 := a_o_wall) (a_p2 := a_o_rules) (a_o_wall := a_o_thought_wall) (a_o_way := a_o_thought_way) (a_o_best := a_o_thought_best) (a_p1_had := a_o_wall_had) (a_p1_told := a_o_wall_told) (a_p1_last := a_o_wall_last) (a_p1_often := a_o_wall_often) (a_o_wall_had := a_o_thought_wall_had) (a_o_wall_told := a_o_thought_wall_told) (a_o_wall_last := a_o_thought_wall_last) (a_o_wall_often := a_o_thought_wall_often) (a_p1_had_words := a_o_wall_had_words) (a_o_wall_had_words := a_o_thought_wall_had_words) (a_p1_told_words := a_o_wall_told_words) (a_o_wall_told_words := a_o_thought_wall_told_words) (a_p2_law := a_o_rules_law) (a_p2_asked := a_o_rules_asked) (a_p2_forbidden := a_o_rules_forbidden) (a_p2_asked_words := a_o_rules_asked_words) (a_p2_forbidden_words := a_o_rules_forbidden_words) (a_p2_law_code := a_o_rules_law_code) (a_p2_law_stack := a_o_rules_law_stack) (x_o_bestLength := x_o_thought_bestLength)   hc17) yy_Th_wishedFrom kf_Th rfl mw_3_138 d_OL_wished_39 rfl [] rfl rfl (Nat.le_of_ble_eq_true rfl) ⟨Nat.le_of_ble_eq_true rfl, Nat.le_of_ble_eq_true rfl⟩ rfl rfl (Nat.zero_le _) (Nat.zero_le _) 2 rfl [2, 1, 3, 4, 5, 6, 7, 8, 9, 10, 11, 12, 13, 14, 15, 16, 17, 18, 19, 20, 21, 22, 23] rfl (by decide +kernel) rfl (g_lay_sel _ _ _ _ [(0, false), (1, true), (0, true), (2, true), (3, true), (4, true), (5, true), (6, true), (7, true), (8, true), (9, true), (10, true), (11, true), (12, true), (13, true), (14, true), (15, true), (16, true), (17, true), (18, true), (19, true), (20, true), (21, true), (22, true)] (by decide +kernel) rfl (by decide +kernel) rfl rfl) rfl ?_
        replace hf := g_o2 hf; obtain ⟨h1, hf⟩ := hf; subst h1
        replace hf := g_o2 hf; obtain ⟨h1, hf⟩ := hf; subst h1
        replace hf := g_o2 hf; obtain ⟨h1, hf⟩ := hf; subst h1
        replace hf := g_o2 hf; obtain ⟨h1, hf⟩ := hf; subst h1
        replace hf := g_o2 hf; obtain ⟨h1, hf⟩ := hf; subst h1
        replace hf := g_o2 hf; obtain ⟨h1, hf⟩ := hf; subst h1
        replace hf := g_o2 hf; obtain ⟨h1, hf⟩ := hf; subst h1
        replace hf := g_o2 hf; obtain ⟨h1, hf⟩ := hf; subst h1
        replace hf := g_o2 hf; obtain ⟨h1, hf⟩ := hf; subst h1
        replace hf := g_o2 hf; obtain ⟨h1, hf⟩ := hf; subst h1
        replace hf := g_o2 hf; obtain ⟨h1, hf⟩ := hf; subst h1
        replace hf := g_o2 hf; obtain ⟨h1, hf⟩ := hf; subst h1
        replace hf := g_o2 hf; obtain ⟨h1, hf⟩ := hf; subst h1
        replace hf := g_o2 hf; obtain ⟨h1, hf⟩ := hf; subst h1
        replace hf := g_o2 hf; obtain ⟨h1, hf⟩ := hf; subst h1
        replace hf := Option.some.inj hf; subst hf
        exact g_iret C d_OL_wished_42 () rfl
      · replace hf := g_in h hf
        refine g_bipush (pc' := 25) (v := (-5)) C d_OL_wished_23 rfl rfl ?_
        replace hf := g_o2 hf; obtain ⟨h1, hf⟩ := hf; subst h1
        replace hf := g_o2 hf; obtain ⟨h1, hf⟩ := hf; subst h1
        replace hf := g_o2 hf; obtain ⟨h1, hf⟩ := hf; subst h1
        replace hf := g_o2 hf; obtain ⟨h1, hf⟩ := hf; subst h1
        replace hf := g_o2 hf; obtain ⟨h1, hf⟩ := hf; subst h1
        replace hf := g_o2 hf; obtain ⟨h1, hf⟩ := hf; subst h1
        replace hf := g_o2 hf; obtain ⟨h1, hf⟩ := hf; subst h1
        replace hf := g_o2 hf; obtain ⟨h1, hf⟩ := hf; subst h1
        replace hf := g_o2 hf; obtain ⟨h1, hf⟩ := hf; subst h1
        replace hf := g_o2 hf; obtain ⟨h1, hf⟩ := hf; subst h1
        replace hf := g_o2 hf; obtain ⟨h1, hf⟩ := hf; subst h1
        replace hf := g_o2 hf; obtain ⟨h1, hf⟩ := hf; subst h1
        replace hf := g_o2 hf; obtain ⟨h1, hf⟩ := hf; subst h1
        replace hf := g_o2 hf; obtain ⟨h1, hf⟩ := hf; subst h1
        replace hf := g_o2 hf; obtain ⟨h1, hf⟩ := hf; subst h1
        replace hf := Option.some.inj hf; subst hf
        exact g_iret C d_OL_wished_25 () rfl
    · replace hf := g_in h hf
      refine g_iconst (pc' := 11) (v := (-1)) C d_OL_wished_10 rfl rfl ?_
      replace hf := g_o2 hf; obtain ⟨h1, hf⟩ := hf; subst h1
      replace hf := g_o2 hf; obtain ⟨h1, hf⟩ := hf; subst h1
      replace hf := g_o2 hf; obtain ⟨h1, hf⟩ := hf; subst h1
      replace hf := g_o2 hf; obtain ⟨h1, hf⟩ := hf; subst h1
      replace hf := g_o2 hf; obtain ⟨h1, hf⟩ := hf; subst h1
      replace hf := g_o2 hf; obtain ⟨h1, hf⟩ := hf; subst h1
      replace hf := g_o2 hf; obtain ⟨h1, hf⟩ := hf; subst h1
      replace hf := g_o2 hf; obtain ⟨h1, hf⟩ := hf; subst h1
      replace hf := g_o2 hf; obtain ⟨h1, hf⟩ := hf; subst h1
      replace hf := g_o2 hf; obtain ⟨h1, hf⟩ := hf; subst h1
      replace hf := g_o2 hf; obtain ⟨h1, hf⟩ := hf; subst h1
      replace hf := g_o2 hf; obtain ⟨h1, hf⟩ := hf; subst h1
      replace hf := g_o2 hf; obtain ⟨h1, hf⟩ := hf; subst h1
      replace hf := g_o2 hf; obtain ⟨h1, hf⟩ := hf; subst h1
      replace hf := g_o2 hf; obtain ⟨h1, hf⟩ := hf; subst h1
      replace hf := Option.some.inj hf; subst hf
      exact g_iret C d_OL_wished_11 () rfl
def y_OL_game : MethodName := ⟨"OneLamp", "game", "(I)I"⟩
theorem yy_OL_game : YV y_OL_game prog_1_method_17_code 3 (some .int) 1 := ⟨mw_3_152, mw_1_1, mw_3_150, mw_3_151, by decide +kernel, by decide +kernel, by decide +kernel⟩
theorem d_OL_game_0 : decode prog_1_method_17_code 0 = .ok (.iload_n 1, 1) := by decide +kernel
theorem d_OL_game_1 : decode prog_1_method_17_code 1 = .ok (.ifCond .lt 8, 3) := by decide +kernel
theorem d_OL_game_4 : decode prog_1_method_17_code 4 = .ok (.iload_n 1, 1) := by decide +kernel
theorem d_OL_game_5 : decode prog_1_method_17_code 5 = .ok (.iconst 1, 1) := by decide +kernel
theorem d_OL_game_6 : decode prog_1_method_17_code 6 = .ok (.if_icmp .le 5, 3) := by decide +kernel
theorem d_OL_game_9 : decode prog_1_method_17_code 9 = .ok (.iconst (-1), 1) := by decide +kernel
theorem d_OL_game_10 : decode prog_1_method_17_code 10 = .ok (.ireturn, 1) := by decide +kernel
theorem d_OL_game_11 : decode prog_1_method_17_code 11 = .ok (.aload_n 0, 1) := by decide +kernel
theorem d_OL_game_12 : decode prog_1_method_17_code 12 = .ok (.getfield 10, 3) := by decide +kernel
theorem d_OL_game_15 : decode prog_1_method_17_code 15 = .ok (.getfield 61, 3) := by decide +kernel
theorem d_OL_game_18 : decode prog_1_method_17_code 18 = .ok (.iconst 4, 1) := by decide +kernel
theorem d_OL_game_19 : decode prog_1_method_17_code 19 = .ok (.if_icmp .le 6, 3) := by decide +kernel
theorem d_OL_game_22 : decode prog_1_method_17_code 22 = .ok (.bipush (-5), 2) := by decide +kernel
theorem d_OL_game_24 : decode prog_1_method_17_code 24 = .ok (.ireturn, 1) := by decide +kernel
theorem d_OL_game_25 : decode prog_1_method_17_code 25 = .ok (.aload_n 0, 1) := by decide +kernel
theorem d_OL_game_26 : decode prog_1_method_17_code 26 = .ok (.getfield 43, 3) := by decide +kernel
theorem d_OL_game_29 : decode prog_1_method_17_code 29 = .ok (.aload_n 0, 1) := by decide +kernel
theorem d_OL_game_30 : decode prog_1_method_17_code 30 = .ok (.getfield 10, 3) := by decide +kernel
theorem d_OL_game_33 : decode prog_1_method_17_code 33 = .ok (.aload_n 0, 1) := by decide +kernel
theorem d_OL_game_34 : decode prog_1_method_17_code 34 = .ok (.getfield 22, 3) := by decide +kernel
theorem d_OL_game_37 : decode prog_1_method_17_code 37 = .ok (.invokevirtual 190, 3) := by decide +kernel
theorem d_OL_game_40 : decode prog_1_method_17_code 40 = .ok (.istore_n 2, 1) := by decide +kernel
theorem d_OL_game_41 : decode prog_1_method_17_code 41 = .ok (.iload_n 1, 1) := by decide +kernel
theorem d_OL_game_42 : decode prog_1_method_17_code 42 = .ok (.iconst 1, 1) := by decide +kernel
theorem d_OL_game_43 : decode prog_1_method_17_code 43 = .ok (.if_icmp .ne 5, 3) := by decide +kernel
theorem d_OL_game_46 : decode prog_1_method_17_code 46 = .ok (.iload_n 2, 1) := by decide +kernel
theorem d_OL_game_47 : decode prog_1_method_17_code 47 = .ok (.ireturn, 1) := by decide +kernel
theorem d_OL_game_48 : decode prog_1_method_17_code 48 = .ok (.iload_n 2, 1) := by decide +kernel
theorem d_OL_game_49 : decode prog_1_method_17_code 49 = .ok (.bipush (-2), 2) := by decide +kernel
theorem d_OL_game_51 : decode prog_1_method_17_code 51 = .ok (.if_icmp .ne 7, 3) := by decide +kernel
theorem d_OL_game_54 : decode prog_1_method_17_code 54 = .ok (.iconst 0, 1) := by decide +kernel
theorem d_OL_game_55 : decode prog_1_method_17_code 55 = .ok (.goto 4, 3) := by decide +kernel
theorem d_OL_game_58 : decode prog_1_method_17_code 58 = .ok (.iconst 1, 1) := by decide +kernel
theorem d_OL_game_59 : decode prog_1_method_17_code 59 = .ok (.ireturn, 1) := by decide +kernel
def f_OL_game  (p1 : Int32) (x_o_wall_lamps : Int32) (x_o_wall_picture : Int32) (x_o_wall_night : Int32) (x_o_wall_spent : Int32) (x_o_thought_open : Int32) (x_o_thought_wall_lamps : Int32) (x_o_thought_wall_picture : Int32) (x_o_thought_wall_night : Int32) (x_o_thought_wall_spent : Int32) (x_o_thought_wall_had_words : Nat → Int64) (x_o_wall_had_words : Nat → Int64) (x_o_thought_wall_told_words : Nat → Int64) (x_o_wall_told_words : Nat → Int64) (x_o_wall_last : Nat → Int32) (x_o_thought_wall_last : Nat → Int32) (x_o_wall_often : Nat → Int32) (x_o_thought_wall_often : Nat → Int32) (x_o_rules_rest : Int32) (x_o_rules_shy : Int32) (x_o_rules_askedForLamps : Int32) (x_o_rules_asked_words : Nat → Int64) (x_o_rules_forbidden_words : Nat → Int64) (x_o_rules_law_length : Int32) (x_o_rules_law_top : Int32) (x_o_rules_law_code : Nat → Int32) (x_o_rules_law_stack : Nat → Int32) : Option (Int32 × Int32 × Int32 × Int32 × Int32 × Int32 × (Nat → Int64) × (Nat → Int64) × (Nat → Int32) × (Nat → Int32) × Int32 × (Nat → Int64) × (Nat → Int64) × Int32 × (Nat → Int32)) :=
  if p1 < 0 then
    (some ((-1 : Int32), x_o_thought_open, x_o_thought_wall_lamps, x_o_thought_wall_picture, x_o_thought_wall_night, x_o_thought_wall_spent, x_o_thought_wall_had_words, x_o_thought_wall_told_words, x_o_thought_wall_last, x_o_thought_wall_often, x_o_rules_askedForLamps, x_o_rules_asked_words, x_o_rules_forbidden_words, x_o_rules_law_top, x_o_rules_law_stack))
  else
    (if p1 ≤ (1 : Int32) then
      (if x_o_wall_lamps ≤ (4 : Int32) then
        ((f_Th_gameFrom  x_o_thought_open x_o_wall_lamps x_o_wall_picture x_o_wall_night x_o_wall_spent x_o_thought_wall_lamps x_o_thought_wall_picture x_o_thought_wall_night x_o_thought_wall_spent x_o_thought_wall_had_words x_o_wall_had_words x_o_thought_wall_told_words x_o_wall_told_words x_o_wall_last x_o_thought_wall_last x_o_wall_often x_o_thought_wall_often x_o_rules_rest x_o_rules_shy x_o_rules_askedForLamps x_o_rules_asked_words x_o_rules_forbidden_words x_o_rules_law_length x_o_rules_law_top x_o_rules_law_code x_o_rules_law_stack).bind fun (r1, u2, u3, u4, u5, u6, u7, u8, u9, u10, u11, u12, u13, u14, u15) =>
        if p1 = (1 : Int32) then
          (some (r1, u2, u3, u4, u5, u6, u7, u8, u9, u10, u11, u12, u13, u14, u15))
        else
          (if r1 = (-2 : Int32) then
            (some ((0 : Int32), u2, u3, u4, u5, u6, u7, u8, u9, u10, u11, u12, u13, u14, u15))
          else
            (some ((1 : Int32), u2, u3, u4, u5, u6, u7, u8, u9, u10, u11, u12, u13, u14, u15))))
      else
        (some ((-5 : Int32), x_o_thought_open, x_o_thought_wall_lamps, x_o_thought_wall_picture, x_o_thought_wall_night, x_o_thought_wall_spent, x_o_thought_wall_had_words, x_o_thought_wall_told_words, x_o_thought_wall_last, x_o_thought_wall_often, x_o_rules_askedForLamps, x_o_rules_asked_words, x_o_rules_forbidden_words, x_o_rules_law_top, x_o_rules_law_stack)))
    else
      (some ((-1 : Int32), x_o_thought_open, x_o_thought_wall_lamps, x_o_thought_wall_picture, x_o_thought_wall_night, x_o_thought_wall_spent, x_o_thought_wall_had_words, x_o_thought_wall_told_words, x_o_thought_wall_last, x_o_thought_wall_often, x_o_rules_askedForLamps, x_o_rules_asked_words, x_o_rules_forbidden_words, x_o_rules_law_top, x_o_rules_law_stack)))
set_option maxRecDepth 20000 in
theorem c_OL_game {l : Launch} {D : va_G} {dA : Nat → ClassId} {a_o a_o_wall a_o_imageOfWall a_o_rules a_o_tape a_o_costs a_o_thought a_o_acts a_o_shelves a_o_wall_had a_o_wall_told a_o_wall_last a_o_wall_often a_o_thought_wall a_o_thought_way a_o_thought_best a_o_thought_wall_had a_o_thought_wall_told a_o_thought_wall_last a_o_thought_wall_often a_o_wall_had_words a_o_thought_wall_had_words a_o_wall_told_words a_o_thought_wall_told_words a_o_rules_law a_o_rules_asked a_o_rules_forbidden a_o_rules_asked_words a_o_rules_forbidden_words a_o_rules_law_code a_o_rules_law_stack : Nat} {x_o_imageIsKept : Bool} {x_o_thought_bestLength : Int32} {x_o_thought_found : Int32} {p1 : Int32} {x_o_wall_lamps : Int32} {x_o_wall_picture : Int32} {x_o_wall_night : Int32} {x_o_wall_spent : Int32} {x_o_thought_open : Int32} {x_o_thought_wall_lamps : Int32} {x_o_thought_wall_picture : Int32} {x_o_thought_wall_night : Int32} {x_o_thought_wall_spent : Int32} {x_o_thought_wall_had_words : Nat → Int64} {x_o_wall_had_words : Nat → Int64} {x_o_thought_wall_told_words : Nat → Int64} {x_o_wall_told_words : Nat → Int64} {x_o_wall_last : Nat → Int32} {x_o_thought_wall_last : Nat → Int32} {x_o_wall_often : Nat → Int32} {x_o_thought_wall_often : Nat → Int32} {x_o_rules_rest : Int32} {x_o_rules_shy : Int32} {x_o_rules_askedForLamps : Int32} {x_o_rules_asked_words : Nat → Int64} {x_o_rules_forbidden_words : Nat → Int64} {x_o_rules_law_length : Int32} {x_o_rules_law_top : Int32} {x_o_rules_law_code : Nat → Int32} {x_o_rules_law_stack : Nat → Int32} {r0 : Int32} {o_x_o_thought_open : Int32} {o_x_o_thought_wall_lamps : Int32} {o_x_o_thought_wall_picture : Int32} {o_x_o_thought_wall_night : Int32} {o_x_o_thought_wall_spent : Int32} {o_x_o_thought_wall_had_words : Nat → Int64} {o_x_o_thought_wall_told_words : Nat → Int64} {o_x_o_thought_wall_last : Nat → Int32} {o_x_o_thought_wall_often : Nat → Int32} {o_x_o_rules_askedForLamps : Int32} {o_x_o_rules_asked_words : Nat → Int64} {o_x_o_rules_forbidden_words : Nat → Int64} {o_x_o_rules_law_top : Int32} {o_x_o_rules_law_stack : Nat → Int32}   (hf : f_OL_game  p1 x_o_wall_lamps x_o_wall_picture x_o_wall_night x_o_wall_spent x_o_thought_open x_o_thought_wall_lamps x_o_thought_wall_picture x_o_thought_wall_night x_o_thought_wall_spent x_o_thought_wall_had_words x_o_wall_had_words x_o_thought_wall_told_words x_o_wall_told_words x_o_wall_last x_o_thought_wall_last x_o_wall_often x_o_thought_wall_often x_o_rules_rest x_o_rules_shy x_o_rules_askedForLamps x_o_rules_asked_words x_o_rules_forbidden_words x_o_rules_law_length x_o_rules_law_top x_o_rules_law_code x_o_rules_law_stack = some (r0, o_x_o_thought_open, o_x_o_thought_wall_lamps, o_x_o_thought_wall_picture, o_x_o_thought_wall_night, o_x_o_thought_wall_spent, o_x_o_thought_wall_had_words, o_x_o_thought_wall_told_words, o_x_o_thought_wall_last, o_x_o_thought_wall_often, o_x_o_rules_askedForLamps, o_x_o_rules_asked_words, o_x_o_rules_forbidden_words, o_x_o_rules_law_top, o_x_o_rules_law_stack)) : CT l y_OL_game prog_1_method_17_code 3 (some .int) { frames := 102, cells := 0, slots := 0, locals := 2347 } D dA [.ref a_o, .int p1] [O_OL a_o a_o_wall a_o_imageOfWall x_o_imageIsKept a_o_rules a_o_tape a_o_costs a_o_thought a_o_acts a_o_shelves, O_Wa a_o_wall x_o_wall_lamps x_o_wall_picture x_o_wall_night x_o_wall_spent a_o_wall_had a_o_wall_told a_o_wall_last a_o_wall_often, O_Th a_o_thought a_o_thought_wall a_o_thought_way a_o_thought_best x_o_thought_bestLength x_o_thought_open x_o_thought_found, O_Wa a_o_thought_wall x_o_thought_wall_lamps x_o_thought_wall_picture x_o_thought_wall_night x_o_thought_wall_spent a_o_thought_wall_had a_o_thought_wall_told a_o_thought_wall_last a_o_thought_wall_often, O_Pi a_o_wall_had a_o_wall_had_words, O_Pi a_o_thought_wall_had a_o_thought_wall_had_words, A_J dA a_o_thought_wall_had_words 16 x_o_thought_wall_had_words, A_J dA a_o_wall_had_words 16 x_o_wall_had_words, O_Pi a_o_wall_told a_o_wall_told_words, O_Pi a_o_thought_wall_told a_o_thought_wall_told_words, A_J dA a_o_thought_wall_told_words 16 x_o_thought_wall_told_words, A_J dA a_o_wall_told_words 16 x_o_wall_told_words, A_I dA a_o_wall_last 10 x_o_wall_last, A_I dA a_o_thought_wall_last 10 x_o_thought_wall_last, A_I dA a_o_wall_often 10 x_o_wall_often, A_I dA a_o_thought_wall_often 10 x_o_thought_wall_often, O_Ru a_o_rules x_o_rules_rest x_o_rules_shy a_o_rules_law a_o_rules_asked a_o_rules_forbidden x_o_rules_askedForLamps, O_Pi a_o_rules_asked a_o_rules_asked_words, A_J dA a_o_rules_asked_words 16 x_o_rules_asked_words, O_Pi a_o_rules_forbidden a_o_rules_forbidden_words, A_J dA a_o_rules_forbidden_words 16 x_o_rules_forbidden_words, O_La a_o_rules_law a_o_rules_law_code x_o_rules_law_length a_o_rules_law_stack x_o_rules_law_top, A_I dA a_o_rules_law_code 256 x_o_rules_law_code, A_I dA a_o_rules_law_stack 256 x_o_rules_law_stack] (some (.int r0)) (fun _ : Unit => [O_OL a_o a_o_wall a_o_imageOfWall x_o_imageIsKept a_o_rules a_o_tape a_o_costs a_o_thought a_o_acts a_o_shelves, O_Wa a_o_wall x_o_wall_lamps x_o_wall_picture x_o_wall_night x_o_wall_spent a_o_wall_had a_o_wall_told a_o_wall_last a_o_wall_often, O_Th a_o_thought a_o_thought_wall a_o_thought_way a_o_thought_best x_o_thought_bestLength o_x_o_thought_open x_o_thought_found, O_Wa a_o_thought_wall o_x_o_thought_wall_lamps o_x_o_thought_wall_picture o_x_o_thought_wall_night o_x_o_thought_wall_spent a_o_thought_wall_had a_o_thought_wall_told a_o_thought_wall_last a_o_thought_wall_often, O_Pi a_o_wall_had a_o_wall_had_words, O_Pi a_o_thought_wall_had a_o_thought_wall_had_words, A_J dA a_o_thought_wall_had_words 16 o_x_o_thought_wall_had_words, A_J dA a_o_wall_had_words 16 x_o_wall_had_words, O_Pi a_o_wall_told a_o_wall_told_words, O_Pi a_o_thought_wall_told a_o_thought_wall_told_words, A_J dA a_o_thought_wall_told_words 16 o_x_o_thought_wall_told_words, A_J dA a_o_wall_told_words 16 x_o_wall_told_words, A_I dA a_o_wall_last 10 x_o_wall_last, A_I dA a_o_thought_wall_last 10 o_x_o_thought_wall_last, A_I dA a_o_wall_often 10 x_o_wall_often, A_I dA a_o_thought_wall_often 10 o_x_o_thought_wall_often, O_Ru a_o_rules x_o_rules_rest x_o_rules_shy a_o_rules_law a_o_rules_asked a_o_rules_forbidden o_x_o_rules_askedForLamps, O_Pi a_o_rules_asked a_o_rules_asked_words, A_J dA a_o_rules_asked_words 16 o_x_o_rules_asked_words, O_Pi a_o_rules_forbidden a_o_rules_forbidden_words, A_J dA a_o_rules_forbidden_words 16 o_x_o_rules_forbidden_words, O_La a_o_rules_law a_o_rules_law_code x_o_rules_law_length a_o_rules_law_stack o_x_o_rules_law_top, A_I dA a_o_rules_law_code 256 x_o_rules_law_code, A_I dA a_o_rules_law_stack 256 o_x_o_rules_law_stack]) := by
  refine ct_intro "OneLamp" rfl (by decide +kernel) (Nat.le_of_ble_eq_true rfl) [(0, .ref a_o), (1, .int p1)] rfl (fun _ C => ?_)
  unfold f_OL_game at hf
  refine g_iload_n (pc' := 1) C 1 d_OL_game_0 rfl rfl ?_
  refine g_if_lt (pc' := 4) (tgt := 9) C d_OL_game_1 rfl rfl (fun h => ?_) (fun h => ?_)
  · replace hf := g_ip h hf
    refine g_iconst (pc' := 10) (v := (-1)) C d_OL_game_9 rfl rfl ?_
    replace hf := g_o2 hf; obtain ⟨h1, hf⟩ := hf; subst h1
    replace hf := g_o2 hf; obtain ⟨h1, hf⟩ := hf; subst h1
    replace hf := g_o2 hf; obtain ⟨h1, hf⟩ := hf; subst h1
    replace hf := g_o2 hf; obtain ⟨h1, hf⟩ := hf; subst h1
    replace hf := g_o2 hf; obtain ⟨h1, hf⟩ := hf; subst h1
    replace hf := g_o2 hf; obtain ⟨h1, hf⟩ := hf; subst h1
    replace hf := g_o2 hf; obtain ⟨h1, hf⟩ := hf; subst h1
    replace hf := g_o2 hf; obtain ⟨h1, hf⟩ := hf; subst h1
    replace hf := g_o2 hf; obtain ⟨h1, hf⟩ := hf; subst h1
    replace hf := g_o2 hf; obtain ⟨h1, hf⟩ := hf; subst h1
    replace hf := g_o2 hf; obtain ⟨h1, hf⟩ := hf; subst h1
    replace hf := g_o2 hf; obtain ⟨h1, hf⟩ := hf; subst h1
    replace hf := g_o2 hf; obtain ⟨h1, hf⟩ := hf; subst h1
    replace hf := g_o2 hf; obtain ⟨h1, hf⟩ := hf; subst h1
    replace hf := Option.some.inj hf; subst hf
    exact g_iret C d_OL_game_10 () rfl
  · replace hf := g_in h hf
    refine g_iload_n (pc' := 5) C 1 d_OL_game_4 rfl rfl ?_
    refine g_iconst (pc' := 6) (v := 1) C d_OL_game_5 rfl rfl ?_
    refine g_icmp_le (pc' := 9) (tgt := 11) C d_OL_game_6 rfl rfl (fun h => ?_) (fun h => ?_)
    · replace hf := g_ip h hf
      refine g_aload_n (pc' := 12) C 0 d_OL_game_11 rfl rfl ?_
      refine g_get (pc' := 15) C kf_OL 0 mw_2_44 d_OL_game_12 rfl 0 rfl (by decide) rfl ?_
      refine g_get (pc' := 18) C kf_Wa 0 mw_1_64 d_OL_game_15 rfl 1 rfl (by decide) rfl ?_
      refine g_iconst (pc' := 19) (v := 4) C d_OL_game_18 rfl rfl ?_
      refine g_icmp_le (pc' := 22) (tgt := 25) C d_OL_game_19 rfl rfl (fun h => ?_) (fun h => ?_)
      · replace hf := g_ip h hf
        refine g_aload_n (pc' := 26) C 0 d_OL_game_25 rfl rfl ?_
        refine g_get (pc' := 29) C kf_OL 6 mw_2_50 d_OL_game_26 rfl 0 rfl (by decide) rfl ?_
        refine g_aload_n (pc' := 30) C 0 d_OL_game_29 rfl rfl ?_
        refine g_get (pc' := 33) C kf_OL 0 mw_2_44 d_OL_game_30 rfl 0 rfl (by decide) rfl ?_
        refine g_aload_n (pc' := 34) C 0 d_OL_game_33 rfl rfl ?_
        refine g_get (pc' := 37) C kf_OL 3 mw_2_47 d_OL_game_34 rfl 0 rfl (by decide) rfl ?_
        replace hf := g_bi hf; obtain ⟨⟨r1, u2, u3, u4, u5, u6, u7, u8, u9, u10, u11, u12, u13, u14, u15⟩, hc16, hf⟩ := hf
        dsimp only at hf
        refine g_callV (pc' := 40) (st1 := [.int r1]) (ws1 := [O_OL a_o a_o_wall a_o_imageOfWall x_o_imageIsKept a_o_rules a_o_tape a_o_costs a_o_thought a_o_acts a_o_shelves, O_Wa a_o_wall x_o_wall_lamps x_o_wall_picture x_o_wall_night x_o_wall_spent a_o_wall_had a_o_wall_told a_o_wall_last a_o_wall_often, O_Th a_o_thought a_o_thought_wall a_o_thought_way a_o_thought_best x_o_thought_bestLength u2 x_o_thought_found, O_Wa a_o_thought_wall u3 u4 u5 u6 a_o_thought_wall_had a_o_thought_wall_told a_o_thought_wall_last a_o_thought_wall_often, O_Pi a_o_wall_had a_o_wall_had_words, O_Pi a_o_thought_wall_had a_o_thought_wall_had_words, A_J dA a_o_thought_wall_had_words 16 u7, A_J dA a_o_wall_had_words 16 x_o_wall_had_words, O_Pi a_o_wall_told a_o_wall_told_words, O_Pi a_o_thought_wall_told a_o_thought_wall_told_words, A_J dA a_o_thought_wall_told_words 16 u8, A_J dA a_o_wall_told_words 16 x_o_wall_told_words, A_I dA a_o_wall_last 10 x_o_wall_last, A_I dA a_o_thought_wall_last 10 u9, A_I dA a_o_wall_often 10 x_o_wall_often, A_I dA a_o_thought_wall_often 10 u10, O_Ru a_o_rules x_o_rules_rest x_o_rules_shy a_o_rules_law a_o_rules_asked a_o_rules_forbidden u11, O_Pi a_o_rules_asked a_o_rules_asked_words, A_J dA a_o_rules_asked_words 16 u12, O_Pi a_o_rules_forbidden a_o_rules_forbidden_words, A_J dA a_o_rules_forbidden_words 16 u13, O_La a_o_rules_law a_o_rules_law_code x_o_rules_law_length a_o_rules_law_stack u14, A_I dA a_o_rules_law_code 256 x_o_rules_law_code, A_I dA a_o_rules_law_stack 256 u15]) C (c_Th_gameFrom (l := l) (D := D) (dA := dA) (a_o := a_o_thought) (a_p1 := a_o_wall) (a_p2 := a_o_rules) (a_o_wall := a_o_thought_wall) (a_o_way := a_o_thought_way) (a_o_best := a_o_thought_best) (a_p1_had := a_o_wall_had) (a_p1_told := a_o_wall_told) (a_p1_last := a_o_wall_last) (a_p1_often := a_o_wall_often) (a_o_wall_had := a_o_thought_wall_had) (a_o_wall_told := a_o_thought_wall_told) (a_o_wall_last := a_o_thought_wall_last) (a_o_wall_often := a_o_thought_wall_often) (a_p1_had_words := a_o_wall_had_words) (a_o_wall_had_words := a_o_thought_wall_had_words) (a_p1_told_words := a_o_wall_told_words) (a_o_wall_told_words := a_o_thought_wall_told_words) (a_p2_law := a_o_rules_law) (a_p2_asked := a_o_rules_asked) (a_p2_forbidden := a_o_rules_forbidden) (a_p2_asked_words := a_o_rules_asked_words) (a_p2_forbidden_words := a_o_rules_forbidden_words) (a_p2_law_code := a_o_rules_law_code) (a_p2_law_stack := a_o_rules_law_stack) (x_o_bestLength := x_o_thought_bestLength) (x_o_found := x_o_thought_found)   hc16) yy_Th_gameFrom kf_Th rfl mw_3_153 d_OL_game_37 rfl [] rfl rfl (Nat.le_of_ble_eq_true rfl) ⟨Nat.le_of_ble_eq_true rfl, Nat.le_of_ble_eq_true rfl⟩ rfl rfl (Nat.zero_le _) (Nat.zero_le _) 2 rfl [2, 1, 3, 4, 5, 6, 7, 8, 9, 10, 11, 12, 13, 14, 15, 16, 17, 18, 19, 20, 21, 22, 23] rfl (by decide +kernel) rfl (g_lay_sel _ _ _ _ [(0, false), (1, true), (0, true), (2, true), (3, true), (4, true), (5, true), (6, true), (7, true), (8, true), (9, true), (10, true), (11, true), (12, true), (13, true), (14, true), (15, true), (16, true), (17, true), (18, true), (19, true), (20, true), (21, true), (22, true)] (by decide +kernel) rfl (by decide +kernel) rfl rfl) rfl ?_
        refine g_istore_n (pc' := 41) (lv' := [(2, .int r1), (0, .ref a_o), (1, .int p1)]) C d_OL_game_40 rfl (by decide) rfl ?_
        refine g_iload_n (pc' := 42) C 2 d_OL_game_41 rfl rfl ?_
        refine g_iconst (pc' := 43) (v := 1) C d_OL_game_42 rfl rfl ?_
        refine g_icmp_ne (pc' := 46) (tgt := 48) C d_OL_game_43 rfl rfl (fun h => ?_) (fun h => ?_)
        · replace hf := g_in h hf
          refine g_iload_n (pc' := 49) C 0 d_OL_game_48 rfl rfl ?_
          refine g_bipush (pc' := 51) (v := (-2)) C d_OL_game_49 rfl rfl ?_
          refine g_icmp_ne (pc' := 54) (tgt := 58) C d_OL_game_51 rfl rfl (fun h => ?_) (fun h => ?_)
          · replace hf := g_in h hf
            refine g_iconst (pc' := 59) (v := 1) C d_OL_game_58 rfl rfl ?_
            replace hf := g_o2 hf; obtain ⟨h1, hf⟩ := hf; subst h1
            replace hf := g_o2 hf; obtain ⟨h1, hf⟩ := hf; subst h1
            replace hf := g_o2 hf; obtain ⟨h1, hf⟩ := hf; subst h1
            replace hf := g_o2 hf; obtain ⟨h1, hf⟩ := hf; subst h1
            replace hf := g_o2 hf; obtain ⟨h1, hf⟩ := hf; subst h1
            replace hf := g_o2 hf; obtain ⟨h1, hf⟩ := hf; subst h1
            replace hf := g_o2 hf; obtain ⟨h1, hf⟩ := hf; subst h1
            replace hf := g_o2 hf; obtain ⟨h1, hf⟩ := hf; subst h1
            replace hf := g_o2 hf; obtain ⟨h1, hf⟩ := hf; subst h1
            replace hf := g_o2 hf; obtain ⟨h1, hf⟩ := hf; subst h1
            replace hf := g_o2 hf; obtain ⟨h1, hf⟩ := hf; subst h1
            replace hf := g_o2 hf; obtain ⟨h1, hf⟩ := hf; subst h1
            replace hf := g_o2 hf; obtain ⟨h1, hf⟩ := hf; subst h1
            replace hf := g_o2 hf; obtain ⟨h1, hf⟩ := hf; subst h1
            replace hf := Option.some.inj hf; subst hf
            exact g_iret C d_OL_game_59 () rfl
          · replace hf := g_ip h hf
            refine g_iconst (pc' := 55) (v := 0) C d_OL_game_54 rfl rfl ?_
            refine g_goto (tgt := 59) C d_OL_game_55 rfl ?_
            replace hf := g_o2 hf; obtain ⟨h1, hf⟩ := hf; subst h1
            replace hf := g_o2 hf; obtain ⟨h1, hf⟩ := hf; subst h1
            replace hf := g_o2 hf; obtain ⟨h1, hf⟩ := hf; subst h1
            replace hf := g_o2 hf; obtain ⟨h1, hf⟩ := hf; subst h1
            replace hf := g_o2 hf; obtain ⟨h1, hf⟩ := hf; subst h1
            replace hf := g_o2 hf; obtain ⟨h1, hf⟩ := hf; subst h1
            replace hf := g_o2 hf; obtain ⟨h1, hf⟩ := hf; subst h1
            replace hf := g_o2 hf; obtain ⟨h1, hf⟩ := hf; subst h1
            replace hf := g_o2 hf; obtain ⟨h1, hf⟩ := hf; subst h1
            replace hf := g_o2 hf; obtain ⟨h1, hf⟩ := hf; subst h1
            replace hf := g_o2 hf; obtain ⟨h1, hf⟩ := hf; subst h1
            replace hf := g_o2 hf; obtain ⟨h1, hf⟩ := hf; subst h1
            replace hf := g_o2 hf; obtain ⟨h1, hf⟩ := hf; subst h1
            replace hf := g_o2 hf; obtain ⟨h1, hf⟩ := hf; subst h1
            replace hf := Option.some.inj hf; subst hf
            exact g_iret C d_OL_game_59 () rfl
        · replace hf := g_ip h hf
          refine g_iload_n (pc' := 47) C 0 d_OL_game_46 rfl rfl ?_
          replace hf := g_o2 hf; obtain ⟨h1, hf⟩ := hf; subst h1
          replace hf := g_o2 hf; obtain ⟨h1, hf⟩ := hf; subst h1
          replace hf := g_o2 hf; obtain ⟨h1, hf⟩ := hf; subst h1
          replace hf := g_o2 hf; obtain ⟨h1, hf⟩ := hf; subst h1
          replace hf := g_o2 hf; obtain ⟨h1, hf⟩ := hf; subst h1
          replace hf := g_o2 hf; obtain ⟨h1, hf⟩ := hf; subst h1
          replace hf := g_o2 hf; obtain ⟨h1, hf⟩ := hf; subst h1
          replace hf := g_o2 hf; obtain ⟨h1, hf⟩ := hf; subst h1
          replace hf := g_o2 hf; obtain ⟨h1, hf⟩ := hf; subst h1
          replace hf := g_o2 hf; obtain ⟨h1, hf⟩ := hf; subst h1
          replace hf := g_o2 hf; obtain ⟨h1, hf⟩ := hf; subst h1
          replace hf := g_o2 hf; obtain ⟨h1, hf⟩ := hf; subst h1
          replace hf := g_o2 hf; obtain ⟨h1, hf⟩ := hf; subst h1
          replace hf := g_o2 hf; obtain ⟨h1, hf⟩ := hf; subst h1
          replace hf := Option.some.inj hf; subst hf
          exact g_iret C d_OL_game_47 () rfl
      · replace hf := g_in h hf
        refine g_bipush (pc' := 24) (v := (-5)) C d_OL_game_22 rfl rfl ?_
        replace hf := g_o2 hf; obtain ⟨h1, hf⟩ := hf; subst h1
        replace hf := g_o2 hf; obtain ⟨h1, hf⟩ := hf; subst h1
        replace hf := g_o2 hf; obtain ⟨h1, hf⟩ := hf; subst h1
        replace hf := g_o2 hf; obtain ⟨h1, hf⟩ := hf; subst h1
        replace hf := g_o2 hf; obtain ⟨h1, hf⟩ := hf; subst h1
        replace hf := g_o2 hf; obtain ⟨h1, hf⟩ := hf; subst h1
        replace hf := g_o2 hf; obtain ⟨h1, hf⟩ := hf; subst h1
        replace hf := g_o2 hf; obtain ⟨h1, hf⟩ := hf; subst h1
        replace hf := g_o2 hf; obtain ⟨h1, hf⟩ := hf; subst h1
        replace hf := g_o2 hf; obtain ⟨h1, hf⟩ := hf; subst h1
        replace hf := g_o2 hf; obtain ⟨h1, hf⟩ := hf; subst h1
        replace hf := g_o2 hf; obtain ⟨h1, hf⟩ := hf; subst h1
        replace hf := g_o2 hf; obtain ⟨h1, hf⟩ := hf; subst h1
        replace hf := g_o2 hf; obtain ⟨h1, hf⟩ := hf; subst h1
        replace hf := Option.some.inj hf; subst hf
        exact g_iret C d_OL_game_24 () rfl
    · replace hf := g_in h hf
      refine g_iconst (pc' := 10) (v := (-1)) C d_OL_game_9 rfl rfl ?_
      replace hf := g_o2 hf; obtain ⟨h1, hf⟩ := hf; subst h1
      replace hf := g_o2 hf; obtain ⟨h1, hf⟩ := hf; subst h1
      replace hf := g_o2 hf; obtain ⟨h1, hf⟩ := hf; subst h1
      replace hf := g_o2 hf; obtain ⟨h1, hf⟩ := hf; subst h1
      replace hf := g_o2 hf; obtain ⟨h1, hf⟩ := hf; subst h1
      replace hf := g_o2 hf; obtain ⟨h1, hf⟩ := hf; subst h1
      replace hf := g_o2 hf; obtain ⟨h1, hf⟩ := hf; subst h1
      replace hf := g_o2 hf; obtain ⟨h1, hf⟩ := hf; subst h1
      replace hf := g_o2 hf; obtain ⟨h1, hf⟩ := hf; subst h1
      replace hf := g_o2 hf; obtain ⟨h1, hf⟩ := hf; subst h1
      replace hf := g_o2 hf; obtain ⟨h1, hf⟩ := hf; subst h1
      replace hf := g_o2 hf; obtain ⟨h1, hf⟩ := hf; subst h1
      replace hf := g_o2 hf; obtain ⟨h1, hf⟩ := hf; subst h1
      replace hf := g_o2 hf; obtain ⟨h1, hf⟩ := hf; subst h1
      replace hf := Option.some.inj hf; subst hf
      exact g_iret C d_OL_game_10 () rfl
def y_OL_ways : MethodName := ⟨"OneLamp", "ways", "(II)I"⟩
theorem yy_OL_ways : YV y_OL_ways prog_1_method_18_code 3 (some .int) 2 := ⟨mw_3_163, mw_1_1, mw_3_161, mw_3_162, by decide +kernel, by decide +kernel, by decide +kernel⟩
theorem d_OL_ways_0 : decode prog_1_method_18_code 0 = .ok (.aload_n 0, 1) := by decide +kernel
theorem d_OL_ways_1 : decode prog_1_method_18_code 1 = .ok (.getfield 10, 3) := by decide +kernel
theorem d_OL_ways_4 : decode prog_1_method_18_code 4 = .ok (.iload_n 1, 1) := by decide +kernel
theorem d_OL_ways_5 : decode prog_1_method_18_code 5 = .ok (.invokevirtual 78, 3) := by decide +kernel
theorem d_OL_ways_8 : decode prog_1_method_18_code 8 = .ok (.ifCond .eq 12, 3) := by decide +kernel
theorem d_OL_ways_11 : decode prog_1_method_18_code 11 = .ok (.iload_n 2, 1) := by decide +kernel
theorem d_OL_ways_12 : decode prog_1_method_18_code 12 = .ok (.ifCond .lt 8, 3) := by decide +kernel
theorem d_OL_ways_15 : decode prog_1_method_18_code 15 = .ok (.iload_n 2, 1) := by decide +kernel
theorem d_OL_ways_16 : decode prog_1_method_18_code 16 = .ok (.iconst 5, 1) := by decide +kernel
theorem d_OL_ways_17 : decode prog_1_method_18_code 17 = .ok (.if_icmp .le 5, 3) := by decide +kernel
theorem d_OL_ways_20 : decode prog_1_method_18_code 20 = .ok (.iconst (-1), 1) := by decide +kernel
theorem d_OL_ways_21 : decode prog_1_method_18_code 21 = .ok (.ireturn, 1) := by decide +kernel
theorem d_OL_ways_22 : decode prog_1_method_18_code 22 = .ok (.aload_n 0, 1) := by decide +kernel
theorem d_OL_ways_23 : decode prog_1_method_18_code 23 = .ok (.getfield 43, 3) := by decide +kernel
theorem d_OL_ways_26 : decode prog_1_method_18_code 26 = .ok (.aload_n 0, 1) := by decide +kernel
theorem d_OL_ways_27 : decode prog_1_method_18_code 27 = .ok (.getfield 10, 3) := by decide +kernel
theorem d_OL_ways_30 : decode prog_1_method_18_code 30 = .ok (.aload_n 0, 1) := by decide +kernel
theorem d_OL_ways_31 : decode prog_1_method_18_code 31 = .ok (.getfield 22, 3) := by decide +kernel
theorem d_OL_ways_34 : decode prog_1_method_18_code 34 = .ok (.iload_n 1, 1) := by decide +kernel
theorem d_OL_ways_35 : decode prog_1_method_18_code 35 = .ok (.iload_n 2, 1) := by decide +kernel
theorem d_OL_ways_36 : decode prog_1_method_18_code 36 = .ok (.invokevirtual 193, 3) := by decide +kernel
theorem d_OL_ways_39 : decode prog_1_method_18_code 39 = .ok (.ireturn, 1) := by decide +kernel
def f_OL_ways  (p1 : Int32) (p2 : Int32) (x_o_wall_lamps : Int32) (x_o_wall_picture : Int32) (x_o_wall_night : Int32) (x_o_wall_spent : Int32) (x_o_thought_wall_lamps : Int32) (x_o_thought_wall_picture : Int32) (x_o_thought_wall_night : Int32) (x_o_thought_wall_spent : Int32) (x_o_thought_wall_had_words : Nat → Int64) (x_o_wall_had_words : Nat → Int64) (x_o_thought_wall_told_words : Nat → Int64) (x_o_wall_told_words : Nat → Int64) (x_o_wall_last : Nat → Int32) (x_o_thought_wall_last : Nat → Int32) (x_o_wall_often : Nat → Int32) (x_o_thought_wall_often : Nat → Int32) (x_o_rules_rest : Int32) (x_o_rules_shy : Int32) (x_o_rules_askedForLamps : Int32) (x_o_rules_asked_words : Nat → Int64) (x_o_rules_forbidden_words : Nat → Int64) (x_o_rules_law_length : Int32) (x_o_rules_law_top : Int32) (x_o_rules_law_code : Nat → Int32) (x_o_rules_law_stack : Nat → Int32) : Option (Int32 × Int32 × Int32 × Int32 × Int32 × (Nat → Int64) × (Nat → Int64) × (Nat → Int32) × (Nat → Int32) × Int32 × (Nat → Int64) × (Nat → Int64) × Int32 × (Nat → Int32)) :=
  (f_Wa_hasPicture  p1 x_o_wall_lamps).bind fun r1 =>
  if r1 = true then
    (if p2 < 0 then
      (some ((-1 : Int32), x_o_thought_wall_lamps, x_o_thought_wall_picture, x_o_thought_wall_night, x_o_thought_wall_spent, x_o_thought_wall_had_words, x_o_thought_wall_told_words, x_o_thought_wall_last, x_o_thought_wall_often, x_o_rules_askedForLamps, x_o_rules_asked_words, x_o_rules_forbidden_words, x_o_rules_law_top, x_o_rules_law_stack))
    else
      (if p2 ≤ (5 : Int32) then
        ((f_Th_waysFrom  p1 p2 x_o_wall_lamps x_o_wall_picture x_o_wall_night x_o_wall_spent x_o_thought_wall_lamps x_o_thought_wall_picture x_o_thought_wall_night x_o_thought_wall_spent x_o_thought_wall_had_words x_o_wall_had_words x_o_thought_wall_told_words x_o_wall_told_words x_o_wall_last x_o_thought_wall_last x_o_wall_often x_o_thought_wall_often x_o_rules_rest x_o_rules_shy x_o_rules_askedForLamps x_o_rules_asked_words x_o_rules_forbidden_words x_o_rules_law_length x_o_rules_law_top x_o_rules_law_code x_o_rules_law_stack).bind fun (r3, u4, u5, u6, u7, u8, u9, u10, u11, u12, u13, u14, u15, u16) =>
        some (r3, u4, u5, u6, u7, u8, u9, u10, u11, u12, u13, u14, u15, u16))
      else
        (some ((-1 : Int32), x_o_thought_wall_lamps, x_o_thought_wall_picture, x_o_thought_wall_night, x_o_thought_wall_spent, x_o_thought_wall_had_words, x_o_thought_wall_told_words, x_o_thought_wall_last, x_o_thought_wall_often, x_o_rules_askedForLamps, x_o_rules_asked_words, x_o_rules_forbidden_words, x_o_rules_law_top, x_o_rules_law_stack))))
  else
    (some ((-1 : Int32), x_o_thought_wall_lamps, x_o_thought_wall_picture, x_o_thought_wall_night, x_o_thought_wall_spent, x_o_thought_wall_had_words, x_o_thought_wall_told_words, x_o_thought_wall_last, x_o_thought_wall_often, x_o_rules_askedForLamps, x_o_rules_asked_words, x_o_rules_forbidden_words, x_o_rules_law_top, x_o_rules_law_stack))
set_option maxRecDepth 20000 in
theorem c_OL_ways {l : Launch} {D : va_G} {dA : Nat → ClassId} {a_o a_o_wall a_o_imageOfWall a_o_rules a_o_tape a_o_costs a_o_thought a_o_acts a_o_shelves a_o_wall_had a_o_wall_told a_o_wall_last a_o_wall_often a_o_thought_wall a_o_thought_way a_o_thought_best a_o_thought_wall_had a_o_thought_wall_told a_o_thought_wall_last a_o_thought_wall_often a_o_wall_had_words a_o_thought_wall_had_words a_o_wall_told_words a_o_thought_wall_told_words a_o_rules_law a_o_rules_asked a_o_rules_forbidden a_o_rules_asked_words a_o_rules_forbidden_words a_o_rules_law_code a_o_rules_law_stack : Nat} {x_o_imageIsKept : Bool} {x_o_thought_bestLength : Int32} {x_o_thought_open : Int32} {x_o_thought_found : Int32} {p1 : Int32} {p2 : Int32} {x_o_wall_lamps : Int32} {x_o_wall_picture : Int32} {x_o_wall_night : Int32} {x_o_wall_spent : Int32} {x_o_thought_wall_lamps : Int32} {x_o_thought_wall_picture : Int32} {x_o_thought_wall_night : Int32} {x_o_thought_wall_spent : Int32} {x_o_thought_wall_had_words : Nat → Int64} {x_o_wall_had_words : Nat → Int64} {x_o_thought_wall_told_words : Nat → Int64} {x_o_wall_told_words : Nat → Int64} {x_o_wall_last : Nat → Int32} {x_o_thought_wall_last : Nat → Int32} {x_o_wall_often : Nat → Int32} {x_o_thought_wall_often : Nat → Int32} {x_o_rules_rest : Int32} {x_o_rules_shy : Int32} {x_o_rules_askedForLamps : Int32} {x_o_rules_asked_words : Nat → Int64} {x_o_rules_forbidden_words : Nat → Int64} {x_o_rules_law_length : Int32} {x_o_rules_law_top : Int32} {x_o_rules_law_code : Nat → Int32} {x_o_rules_law_stack : Nat → Int32} {r0 : Int32} {o_x_o_thought_wall_lamps : Int32} {o_x_o_thought_wall_picture : Int32} {o_x_o_thought_wall_night : Int32} {o_x_o_thought_wall_spent : Int32} {o_x_o_thought_wall_had_words : Nat → Int64} {o_x_o_thought_wall_told_words : Nat → Int64} {o_x_o_thought_wall_last : Nat → Int32} {o_x_o_thought_wall_often : Nat → Int32} {o_x_o_rules_askedForLamps : Int32} {o_x_o_rules_asked_words : Nat → Int64} {o_x_o_rules_forbidden_words : Nat → Int64} {o_x_o_rules_law_top : Int32} {o_x_o_rules_law_stack : Nat → Int32}   (hf : f_OL_ways  p1 p2 x_o_wall_lamps x_o_wall_picture x_o_wall_night x_o_wall_spent x_o_thought_wall_lamps x_o_thought_wall_picture x_o_thought_wall_night x_o_thought_wall_spent x_o_thought_wall_had_words x_o_wall_had_words x_o_thought_wall_told_words x_o_wall_told_words x_o_wall_last x_o_thought_wall_last x_o_wall_often x_o_thought_wall_often x_o_rules_rest x_o_rules_shy x_o_rules_askedForLamps x_o_rules_asked_words x_o_rules_forbidden_words x_o_rules_law_length x_o_rules_law_top x_o_rules_law_code x_o_rules_law_stack = some (r0, o_x_o_thought_wall_lamps, o_x_o_thought_wall_picture, o_x_o_thought_wall_night, o_x_o_thought_wall_spent, o_x_o_thought_wall_had_words, o_x_o_thought_wall_told_words, o_x_o_thought_wall_last, o_x_o_thought_wall_often, o_x_o_rules_askedForLamps, o_x_o_rules_asked_words, o_x_o_rules_forbidden_words, o_x_o_rules_law_top, o_x_o_rules_law_stack)) : CT l y_OL_ways prog_1_method_18_code 3 (some .int) { frames := 42, cells := 0, slots := 0, locals := 971 } D dA [.ref a_o, .int p1, .int p2] [O_OL a_o a_o_wall a_o_imageOfWall x_o_imageIsKept a_o_rules a_o_tape a_o_costs a_o_thought a_o_acts a_o_shelves, O_Wa a_o_wall x_o_wall_lamps x_o_wall_picture x_o_wall_night x_o_wall_spent a_o_wall_had a_o_wall_told a_o_wall_last a_o_wall_often, O_Th a_o_thought a_o_thought_wall a_o_thought_way a_o_thought_best x_o_thought_bestLength x_o_thought_open x_o_thought_found, O_Wa a_o_thought_wall x_o_thought_wall_lamps x_o_thought_wall_picture x_o_thought_wall_night x_o_thought_wall_spent a_o_thought_wall_had a_o_thought_wall_told a_o_thought_wall_last a_o_thought_wall_often, O_Pi a_o_wall_had a_o_wall_had_words, O_Pi a_o_thought_wall_had a_o_thought_wall_had_words, A_J dA a_o_thought_wall_had_words 16 x_o_thought_wall_had_words, A_J dA a_o_wall_had_words 16 x_o_wall_had_words, O_Pi a_o_wall_told a_o_wall_told_words, O_Pi a_o_thought_wall_told a_o_thought_wall_told_words, A_J dA a_o_thought_wall_told_words 16 x_o_thought_wall_told_words, A_J dA a_o_wall_told_words 16 x_o_wall_told_words, A_I dA a_o_wall_last 10 x_o_wall_last, A_I dA a_o_thought_wall_last 10 x_o_thought_wall_last, A_I dA a_o_wall_often 10 x_o_wall_often, A_I dA a_o_thought_wall_often 10 x_o_thought_wall_often, O_Ru a_o_rules x_o_rules_rest x_o_rules_shy a_o_rules_law a_o_rules_asked a_o_rules_forbidden x_o_rules_askedForLamps, O_Pi a_o_rules_asked a_o_rules_asked_words, A_J dA a_o_rules_asked_words 16 x_o_rules_asked_words, O_Pi a_o_rules_forbidden a_o_rules_forbidden_words, A_J dA a_o_rules_forbidden_words 16 x_o_rules_forbidden_words, O_La a_o_rules_law a_o_rules_law_code x_o_rules_law_length a_o_rules_law_stack x_o_rules_law_top, A_I dA a_o_rules_law_code 256 x_o_rules_law_code, A_I dA a_o_rules_law_stack 256 x_o_rules_law_stack] (some (.int r0)) (fun _ : Unit => [O_OL a_o a_o_wall a_o_imageOfWall x_o_imageIsKept a_o_rules a_o_tape a_o_costs a_o_thought a_o_acts a_o_shelves, O_Wa a_o_wall x_o_wall_lamps x_o_wall_picture x_o_wall_night x_o_wall_spent a_o_wall_had a_o_wall_told a_o_wall_last a_o_wall_often, O_Th a_o_thought a_o_thought_wall a_o_thought_way a_o_thought_best x_o_thought_bestLength x_o_thought_open x_o_thought_found, O_Wa a_o_thought_wall o_x_o_thought_wall_lamps o_x_o_thought_wall_picture o_x_o_thought_wall_night o_x_o_thought_wall_spent a_o_thought_wall_had a_o_thought_wall_told a_o_thought_wall_last a_o_thought_wall_often, O_Pi a_o_wall_had a_o_wall_had_words, O_Pi a_o_thought_wall_had a_o_thought_wall_had_words, A_J dA a_o_thought_wall_had_words 16 o_x_o_thought_wall_had_words, A_J dA a_o_wall_had_words 16 x_o_wall_had_words, O_Pi a_o_wall_told a_o_wall_told_words, O_Pi a_o_thought_wall_told a_o_thought_wall_told_words, A_J dA a_o_thought_wall_told_words 16 o_x_o_thought_wall_told_words, A_J dA a_o_wall_told_words 16 x_o_wall_told_words, A_I dA a_o_wall_last 10 x_o_wall_last, A_I dA a_o_thought_wall_last 10 o_x_o_thought_wall_last, A_I dA a_o_wall_often 10 x_o_wall_often, A_I dA a_o_thought_wall_often 10 o_x_o_thought_wall_often, O_Ru a_o_rules x_o_rules_rest x_o_rules_shy a_o_rules_law a_o_rules_asked a_o_rules_forbidden o_x_o_rules_askedForLamps, O_Pi a_o_rules_asked a_o_rules_asked_words, A_J dA a_o_rules_asked_words 16 o_x_o_rules_asked_words, O_Pi a_o_rules_forbidden a_o_rules_forbidden_words, A_J dA a_o_rules_forbidden_words 16 o_x_o_rules_forbidden_words, O_La a_o_rules_law a_o_rules_law_code x_o_rules_law_length a_o_rules_law_stack o_x_o_rules_law_top, A_I dA a_o_rules_law_code 256 x_o_rules_law_code, A_I dA a_o_rules_law_stack 256 o_x_o_rules_law_stack]) := by
  refine ct_intro "OneLamp" rfl (by decide +kernel) (Nat.le_of_ble_eq_true rfl) [(0, .ref a_o), (1, .int p1), (2, .int p2)] rfl (fun _ C => ?_)
  unfold f_OL_ways at hf
  refine g_aload_n (pc' := 1) C 0 d_OL_ways_0 rfl rfl ?_
  refine g_get (pc' := 4) C kf_OL 0 mw_2_44 d_OL_ways_1 rfl 0 rfl (by decide) rfl ?_
  refine g_iload_n (pc' := 5) C 1 d_OL_ways_4 rfl rfl ?_
  replace hf := g_bi hf; obtain ⟨r1, hc2, hf⟩ := hf
  refine g_callV (pc' := 8) (st1 := [.int (b2i r1)]) (ws1 := [O_OL a_o a_o_wall a_o_imageOfWall x_o_imageIsKept a_o_rules a_o_tape a_o_costs a_o_thought a_o_acts a_o_shelves, O_Wa a_o_wall x_o_wall_lamps x_o_wall_picture x_o_wall_night x_o_wall_spent a_o_wall_had a_o_wall_told a_o_wall_last a_o_wall_often, O_Th a_o_thought a_o_thought_wall a_o_thought_way a_o_thought_best x_o_thought_bestLength x_o_thought_open x_o_thought_found, O_Wa a_o_thought_wall x_o_thought_wall_lamps x_o_thought_wall_picture x_o_thought_wall_night x_o_thought_wall_spent a_o_thought_wall_had a_o_thought_wall_told a_o_thought_wall_last a_o_thought_wall_often, O_Pi a_o_wall_had a_o_wall_had_words, O_Pi a_o_thought_wall_had a_o_thought_wall_had_words, A_J dA a_o_thought_wall_had_words 16 x_o_thought_wall_had_words, A_J dA a_o_wall_had_words 16 x_o_wall_had_words, O_Pi a_o_wall_told a_o_wall_told_words, O_Pi a_o_thought_wall_told a_o_thought_wall_told_words, A_J dA a_o_thought_wall_told_words 16 x_o_thought_wall_told_words, A_J dA a_o_wall_told_words 16 x_o_wall_told_words, A_I dA a_o_wall_last 10 x_o_wall_last, A_I dA a_o_thought_wall_last 10 x_o_thought_wall_last, A_I dA a_o_wall_often 10 x_o_wall_often, A_I dA a_o_thought_wall_often 10 x_o_thought_wall_often, O_Ru a_o_rules x_o_rules_rest x_o_rules_shy a_o_rules_law a_o_rules_asked a_o_rules_forbidden x_o_rules_askedForLamps, O_Pi a_o_rules_asked a_o_rules_asked_words, A_J dA a_o_rules_asked_words 16 x_o_rules_asked_words, O_Pi a_o_rules_forbidden a_o_rules_forbidden_words, A_J dA a_o_rules_forbidden_words 16 x_o_rules_forbidden_words, O_La a_o_rules_law a_o_rules_law_code x_o_rules_law_length a_o_rules_law_stack x_o_rules_law_top, A_I dA a_o_rules_law_code 256 x_o_rules_law_code, A_I dA a_o_rules_law_stack 256 x_o_rules_law_stack]) C (c_Wa_hasPicture (l := l) (D := D) (dA := dA) (a_o := a_o_wall) (a_o_had := a_o_wall_had) (a_o_told := a_o_wall_told) (a_o_last := a_o_wall_last) (a_o_often := a_o_wall_often) (x_o_picture := x_o_wall_picture) (x_o_night := x_o_wall_night) (x_o_spent := x_o_wall_spent)   hc2) yy_Wa_hasPicture kf_Wa rfl mw_2_82 d_OL_ways_5 rfl [] rfl rfl (Nat.le_of_ble_eq_true rfl) ⟨Nat.le_of_ble_eq_true rfl, Nat.le_of_ble_eq_true rfl⟩ rfl rfl (Nat.zero_le _) (Nat.zero_le _) 1 rfl [1] rfl (by decide +kernel) rfl (g_lay_sel _ _ _ _ [(0, false), (0, true), (2, false), (3, false), (4, false), (5, false), (6, false), (7, false), (8, false), (9, false), (10, false), (11, false), (12, false), (13, false), (14, false), (15, false), (16, false), (17, false), (18, false), (19, false), (20, false), (21, false), (22, false), (23, false)] (by decide +kernel) rfl (by decide +kernel) rfl rfl) rfl ?_
  refine g_if_eqb (pc' := 11) (tgt := 20) C d_OL_ways_8 rfl rfl (fun h => ?_) (fun h => ?_)
  · replace hf := g_bf h hf
    refine g_iconst (pc' := 21) (v := (-1)) C d_OL_ways_20 rfl rfl ?_
    replace hf := g_o2 hf; obtain ⟨h1, hf⟩ := hf; subst h1
    replace hf := g_o2 hf; obtain ⟨h1, hf⟩ := hf; subst h1
    replace hf := g_o2 hf; obtain ⟨h1, hf⟩ := hf; subst h1
    replace hf := g_o2 hf; obtain ⟨h1, hf⟩ := hf; subst h1
    replace hf := g_o2 hf; obtain ⟨h1, hf⟩ := hf; subst h1
    replace hf := g_o2 hf; obtain ⟨h1, hf⟩ := hf; subst h1
    replace hf := g_o2 hf; obtain ⟨h1, hf⟩ := hf; subst h1
    replace hf := g_o2 hf; obtain ⟨h1, hf⟩ := hf; subst h1
    replace hf := g_o2 hf; obtain ⟨h1, hf⟩ := hf; subst h1
    replace hf := g_o2 hf; obtain ⟨h1, hf⟩ := hf; subst h1
    replace hf := g_o2 hf; obtain ⟨h1, hf⟩ := hf; subst h1
    replace hf := g_o2 hf; obtain ⟨h1, hf⟩ := hf; subst h1
    replace hf := g_o2 hf; obtain ⟨h1, hf⟩ := hf; subst h1
    replace hf := Option.some.inj hf; subst hf
    exact g_iret C d_OL_ways_21 () rfl
  · replace hf := g_bt h hf
    refine g_iload_n (pc' := 12) C 2 d_OL_ways_11 rfl rfl ?_
    refine g_if_lt (pc' := 15) (tgt := 20) C d_OL_ways_12 rfl rfl (fun h => ?_) (fun h => ?_)
    · replace hf := g_ip h hf
      refine g_iconst (pc' := 21) (v := (-1)) C d_OL_ways_20 rfl rfl ?_
      replace hf := g_o2 hf; obtain ⟨h1, hf⟩ := hf; subst h1
      replace hf := g_o2 hf; obtain ⟨h1, hf⟩ := hf; subst h1
      replace hf := g_o2 hf; obtain ⟨h1, hf⟩ := hf; subst h1
      replace hf := g_o2 hf; obtain ⟨h1, hf⟩ := hf; subst h1
      replace hf := g_o2 hf; obtain ⟨h1, hf⟩ := hf; subst h1
      replace hf := g_o2 hf; obtain ⟨h1, hf⟩ := hf; subst h1
      replace hf := g_o2 hf; obtain ⟨h1, hf⟩ := hf; subst h1
      replace hf := g_o2 hf; obtain ⟨h1, hf⟩ := hf; subst h1
      replace hf := g_o2 hf; obtain ⟨h1, hf⟩ := hf; subst h1
      replace hf := g_o2 hf; obtain ⟨h1, hf⟩ := hf; subst h1
      replace hf := g_o2 hf; obtain ⟨h1, hf⟩ := hf; subst h1
      replace hf := g_o2 hf; obtain ⟨h1, hf⟩ := hf; subst h1
      replace hf := g_o2 hf; obtain ⟨h1, hf⟩ := hf; subst h1
      replace hf := Option.some.inj hf; subst hf
      exact g_iret C d_OL_ways_21 () rfl
    · replace hf := g_in h hf
      refine g_iload_n (pc' := 16) C 2 d_OL_ways_15 rfl rfl ?_
      refine g_iconst (pc' := 17) (v := 5) C d_OL_ways_16 rfl rfl ?_
      refine g_icmp_le (pc' := 20) (tgt := 22) C d_OL_ways_17 rfl rfl (fun h => ?_) (fun h => ?_)
      · replace hf := g_ip h hf
        refine g_aload_n (pc' := 23) C 0 d_OL_ways_22 rfl rfl ?_
        refine g_get (pc' := 26) C kf_OL 6 mw_2_50 d_OL_ways_23 rfl 0 rfl (by decide) rfl ?_
        refine g_aload_n (pc' := 27) C 0 d_OL_ways_26 rfl rfl ?_
        refine g_get (pc' := 30) C kf_OL 0 mw_2_44 d_OL_ways_27 rfl 0 rfl (by decide) rfl ?_
        refine g_aload_n (pc' := 31) C 0 d_OL_ways_30 rfl rfl ?_
        refine g_get (pc' := 34) C kf_OL 3 mw_2_47 d_OL_ways_31 rfl 0 rfl (by decide) rfl ?_
        refine g_iload_n (pc' := 35) C 1 d_OL_ways_34 rfl rfl ?_
        refine g_iload_n (pc' := 36) C 2 d_OL_ways_35 rfl rfl ?_
        replace hf := g_bi hf; obtain ⟨⟨r3, u4, u5, u6, u7, u8, u9, u10, u11, u12, u13, u14, u15, u16⟩, hc17, hf⟩ := hf
        dsimp only at hf
        refine g_callV (pc' := 39) (st1 := [.int r3]) (ws1 := [O_OL a_o a_o_wall a_o_imageOfWall x_o_imageIsKept a_o_rules a_o_tape a_o_costs a_o_thought a_o_acts a_o_shelves, O_Wa a_o_wall x_o_wall_lamps x_o_wall_picture x_o_wall_night x_o_wall_spent a_o_wall_had a_o_wall_told a_o_wall_last a_o_wall_often, O_Th a_o_thought a_o_thought_wall a_o_thought_way a_o_thought_best x_o_thought_bestLength x_o_thought_open x_o_thought_found, O_Wa a_o_thought_wall u4 u5 u6 u7 a_o_thought_wall_had a_o_thought_wall_told a_o_thought_wall_last a_o_thought_wall_often, O_Pi a_o_wall_had a_o_wall_had_words, O_Pi a_o_thought_wall_had a_o_thought_wall_had_words, A_J dA a_o_thought_wall_had_words 16 u8, A_J dA a_o_wall_had_words 16 x_o_wall_had_words, O_Pi a_o_wall_told a_o_wall_told_words, O_Pi a_o_thought_wall_told a_o_thought_wall_told_words, A_J dA a_o_thought_wall_told_words 16 u9, A_J dA a_o_wall_told_words 16 x_o_wall_told_words, A_I dA a_o_wall_last 10 x_o_wall_last, A_I dA a_o_thought_wall_last 10 u10, A_I dA a_o_wall_often 10 x_o_wall_often, A_I dA a_o_thought_wall_often 10 u11, O_Ru a_o_rules x_o_rules_rest x_o_rules_shy a_o_rules_law a_o_rules_asked a_o_rules_forbidden u12, O_Pi a_o_rules_asked a_o_rules_asked_words, A_J dA a_o_rules_asked_words 16 u13, O_Pi a_o_rules_forbidden a_o_rules_forbidden_words, A_J dA a_o_rules_forbidden_words 16 u14, O_La a_o_rules_law a_o_rules_law_code x_o_rules_law_length a_o_rules_law_stack u15, A_I dA a_o_rules_law_code 256 x_o_rules_law_code, A_I dA a_o_rules_law_stack 256 u16]) C (c_Th_waysFrom (l := l) (D := D) (dA := dA) (a_o := a_o_thought) (a_p1 := a_o_wall) (a_p2 := a_o_rules) (a_o_wall := a_o_thought_wall) (a_o_way := a_o_thought_way) (a_o_best := a_o_thought_best) (a_p1_had := a_o_wall_had) (a_p1_told := a_o_wall_told) (a_p1_last := a_o_wall_last) (a_p1_often := a_o_wall_often) (a_o_wall_had := a_o_thought_wall_had) (a_o_wall_told := a_o_thought_wall_told) (a_o_wall_last := a_o_thought_wall_last) (a_o_wall_often := a_o_thought_wall_often) (a_p1_had_words := a_o_wall_had_words) (a_o_wall_had_words := a_o_thought_wall_had_words) (a_p1_told_words := a_o_wall_told_words) (a_o_wall_told_words := a_o_thought_wall_told_words) (a_p2_law := a_o_rules_law) (a_p2_asked := a_o_rules_asked) (a_p2_forbidden := a_o_rules_forbidden) (a_p2_asked_words := a_o_rules_asked_words) (a_p2_forbidden_words := a_o_rules_forbidden_words) (a_p2_law_code := a_o_rules_law_code) (a_p2_law_stack := a_o_rules_law_stack) (x_o_bestLength := x_o_thought_bestLength) (x_o_open := x_o_thought_open) (x_o_found := x_o_thought_found)   hc17) yy_Th_waysFrom kf_Th rfl mw_3_164 d_OL_ways_36 rfl [] rfl rfl (Nat.le_of_ble_eq_true rfl) ⟨Nat.le_of_ble_eq_true rfl, Nat.le_of_ble_eq_true rfl⟩ rfl rfl (Nat.zero_le _) (Nat.zero_le _) 2 rfl [2, 1, 3, 4, 5, 6, 7, 8, 9, 10, 11, 12, 13, 14, 15, 16, 17, 18, 19, 20, 21, 22, 23] rfl (by decide +kernel) rfl (g_lay_sel _ _ _ _ [(0, false), (1, true), (0, true), (2, true), (3, true), (4, true), (5, true), (6, true), (7, true), (8, true), (9, true), (10, true), (11, true), (12, true), (13, true), (14, true), (15, true), (16, true), (17, true), (18, true), (19, true), (20, true), (21, true), (22, true)] (by decide +kernel) rfl (by decide +kernel) rfl rfl) rfl ?_
        replace hf := g_o2 hf; obtain ⟨h1, hf⟩ := hf; subst h1
        replace hf := g_o2 hf; obtain ⟨h1, hf⟩ := hf; subst h1
        replace hf := g_o2 hf; obtain ⟨h1, hf⟩ := hf; subst h1
        replace hf := g_o2 hf; obtain ⟨h1, hf⟩ := hf; subst h1
        replace hf := g_o2 hf; obtain ⟨h1, hf⟩ := hf; subst h1
        replace hf := g_o2 hf; obtain ⟨h1, hf⟩ := hf; subst h1
        replace hf := g_o2 hf; obtain ⟨h1, hf⟩ := hf; subst h1
        replace hf := g_o2 hf; obtain ⟨h1, hf⟩ := hf; subst h1
        replace hf := g_o2 hf; obtain ⟨h1, hf⟩ := hf; subst h1
        replace hf := g_o2 hf; obtain ⟨h1, hf⟩ := hf; subst h1
        replace hf := g_o2 hf; obtain ⟨h1, hf⟩ := hf; subst h1
        replace hf := g_o2 hf; obtain ⟨h1, hf⟩ := hf; subst h1
        replace hf := g_o2 hf; obtain ⟨h1, hf⟩ := hf; subst h1
        replace hf := Option.some.inj hf; subst hf
        exact g_iret C d_OL_ways_39 () rfl
      · replace hf := g_in h hf
        refine g_iconst (pc' := 21) (v := (-1)) C d_OL_ways_20 rfl rfl ?_
        replace hf := g_o2 hf; obtain ⟨h1, hf⟩ := hf; subst h1
        replace hf := g_o2 hf; obtain ⟨h1, hf⟩ := hf; subst h1
        replace hf := g_o2 hf; obtain ⟨h1, hf⟩ := hf; subst h1
        replace hf := g_o2 hf; obtain ⟨h1, hf⟩ := hf; subst h1
        replace hf := g_o2 hf; obtain ⟨h1, hf⟩ := hf; subst h1
        replace hf := g_o2 hf; obtain ⟨h1, hf⟩ := hf; subst h1
        replace hf := g_o2 hf; obtain ⟨h1, hf⟩ := hf; subst h1
        replace hf := g_o2 hf; obtain ⟨h1, hf⟩ := hf; subst h1
        replace hf := g_o2 hf; obtain ⟨h1, hf⟩ := hf; subst h1
        replace hf := g_o2 hf; obtain ⟨h1, hf⟩ := hf; subst h1
        replace hf := g_o2 hf; obtain ⟨h1, hf⟩ := hf; subst h1
        replace hf := g_o2 hf; obtain ⟨h1, hf⟩ := hf; subst h1
        replace hf := g_o2 hf; obtain ⟨h1, hf⟩ := hf; subst h1
        replace hf := Option.some.inj hf; subst hf
        exact g_iret C d_OL_ways_21 () rfl
def y_OL_judge : MethodName := ⟨"OneLamp", "judge", "(I)I"⟩
theorem yy_OL_judge : YV y_OL_judge prog_1_method_19_code 3 (some .int) 1 := ⟨mw_3_174, mw_1_1, mw_3_172, mw_3_173, by decide +kernel, by decide +kernel, by decide +kernel⟩
theorem d_OL_judge_0 : decode prog_1_method_19_code 0 = .ok (.iload_n 1, 1) := by decide +kernel
theorem d_OL_judge_1 : decode prog_1_method_19_code 1 = .ok (.invokestatic 88, 3) := by decide +kernel
theorem d_OL_judge_4 : decode prog_1_method_19_code 4 = .ok (.ifCond .ne 5, 3) := by decide +kernel
theorem d_OL_judge_7 : decode prog_1_method_19_code 7 = .ok (.iconst (-1), 1) := by decide +kernel
theorem d_OL_judge_8 : decode prog_1_method_19_code 8 = .ok (.ireturn, 1) := by decide +kernel
theorem d_OL_judge_9 : decode prog_1_method_19_code 9 = .ok (.aload_n 0, 1) := by decide +kernel
theorem d_OL_judge_10 : decode prog_1_method_19_code 10 = .ok (.getfield 56, 3) := by decide +kernel
theorem d_OL_judge_13 : decode prog_1_method_19_code 13 = .ok (.iload_n 1, 1) := by decide +kernel
theorem d_OL_judge_14 : decode prog_1_method_19_code 14 = .ok (.aaload, 1) := by decide +kernel
theorem d_OL_judge_15 : decode prog_1_method_19_code 15 = .ok (.astore_n 2, 1) := by decide +kernel
theorem d_OL_judge_16 : decode prog_1_method_19_code 16 = .ok (.aload_n 2, 1) := by decide +kernel
theorem d_OL_judge_17 : decode prog_1_method_19_code 17 = .ok (.invokevirtual 91, 3) := by decide +kernel
theorem d_OL_judge_20 : decode prog_1_method_19_code 20 = .ok (.ifCond .eq 6, 3) := by decide +kernel
theorem d_OL_judge_23 : decode prog_1_method_19_code 23 = .ok (.bipush (-11), 2) := by decide +kernel
theorem d_OL_judge_25 : decode prog_1_method_19_code 25 = .ok (.ireturn, 1) := by decide +kernel
theorem d_OL_judge_26 : decode prog_1_method_19_code 26 = .ok (.aload_n 2, 1) := by decide +kernel
theorem d_OL_judge_27 : decode prog_1_method_19_code 27 = .ok (.iconst 1, 1) := by decide +kernel
theorem d_OL_judge_28 : decode prog_1_method_19_code 28 = .ok (.invokevirtual 95, 3) := by decide +kernel
theorem d_OL_judge_31 : decode prog_1_method_19_code 31 = .ok (.ifCond .ne 6, 3) := by decide +kernel
theorem d_OL_judge_34 : decode prog_1_method_19_code 34 = .ok (.bipush (-12), 2) := by decide +kernel
theorem d_OL_judge_36 : decode prog_1_method_19_code 36 = .ok (.ireturn, 1) := by decide +kernel
theorem d_OL_judge_37 : decode prog_1_method_19_code 37 = .ok (.aload_n 0, 1) := by decide +kernel
theorem d_OL_judge_38 : decode prog_1_method_19_code 38 = .ok (.getfield 43, 3) := by decide +kernel
theorem d_OL_judge_41 : decode prog_1_method_19_code 41 = .ok (.aload_n 0, 1) := by decide +kernel
theorem d_OL_judge_42 : decode prog_1_method_19_code 42 = .ok (.getfield 10, 3) := by decide +kernel
theorem d_OL_judge_45 : decode prog_1_method_19_code 45 = .ok (.aload_n 0, 1) := by decide +kernel
theorem d_OL_judge_46 : decode prog_1_method_19_code 46 = .ok (.getfield 22, 3) := by decide +kernel
theorem d_OL_judge_49 : decode prog_1_method_19_code 49 = .ok (.aload_n 2, 1) := by decide +kernel
theorem d_OL_judge_50 : decode prog_1_method_19_code 50 = .ok (.invokevirtual 197, 3) := by decide +kernel
theorem d_OL_judge_53 : decode prog_1_method_19_code 53 = .ok (.ireturn, 1) := by decide +kernel
def f_OL_judge  (p1 : Int32) (x_o_shelves_ep1_holds : Int32) (x_o_shelves_ep1_sort : Int32) (x_o_shelves_ep1_length : Int32) (x_o_wall_lamps : Int32) (x_o_wall_picture : Int32) (x_o_wall_night : Int32) (x_o_wall_spent : Int32) (x_o_thought_wall_lamps : Int32) (x_o_thought_wall_picture : Int32) (x_o_thought_wall_night : Int32) (x_o_thought_wall_spent : Int32) (x_o_thought_wall_had_words : Nat → Int64) (x_o_wall_had_words : Nat → Int64) (x_o_thought_wall_told_words : Nat → Int64) (x_o_wall_told_words : Nat → Int64) (x_o_wall_last : Nat → Int32) (x_o_thought_wall_last : Nat → Int32) (x_o_wall_often : Nat → Int32) (x_o_thought_wall_often : Nat → Int32) (x_o_shelves_ep1_elements : Nat → Int64) (x_o_rules_rest : Int32) (x_o_rules_shy : Int32) (x_o_rules_askedForLamps : Int32) (x_o_rules_asked_words : Nat → Int64) (x_o_rules_forbidden_words : Nat → Int64) (x_o_rules_law_length : Int32) (x_o_rules_law_top : Int32) (x_o_rules_law_code : Nat → Int32) (x_o_rules_law_stack : Nat → Int32) : Option (Int32 × Int32 × Int32 × Int32 × Int32 × (Nat → Int64) × (Nat → Int64) × (Nat → Int32) × (Nat → Int32) × Int32 × (Nat → Int64) × (Nat → Int64) × Int32 × (Nat → Int32)) :=
  (f_OL_isShelf  p1).bind fun r1 =>
  if r1 = true then
    (if p1 < 0 ∨ 6 ≤ Int32.toNatClampNeg p1 then none else
    (f_Sh_isEmpty  x_o_shelves_ep1_holds).bind fun r3 =>
    if r3 = true then
      (some ((-11 : Int32), x_o_thought_wall_lamps, x_o_thought_wall_picture, x_o_thought_wall_night, x_o_thought_wall_spent, x_o_thought_wall_had_words, x_o_thought_wall_told_words, x_o_thought_wall_last, x_o_thought_wall_often, x_o_rules_askedForLamps, x_o_rules_asked_words, x_o_rules_forbidden_words, x_o_rules_law_top, x_o_rules_law_stack))
    else
      ((f_Sh_isRowOf  (1 : Int32) x_o_shelves_ep1_holds x_o_shelves_ep1_sort).bind fun r5 =>
      if r5 = true then
        ((f_Th_firstWrong  x_o_wall_lamps x_o_wall_picture x_o_wall_night x_o_wall_spent x_o_thought_wall_lamps x_o_thought_wall_picture x_o_thought_wall_night x_o_thought_wall_spent x_o_thought_wall_had_words x_o_wall_had_words x_o_thought_wall_told_words x_o_wall_told_words x_o_wall_last x_o_thought_wall_last x_o_wall_often x_o_thought_wall_often x_o_shelves_ep1_holds x_o_shelves_ep1_length x_o_shelves_ep1_elements x_o_rules_rest x_o_rules_shy x_o_rules_askedForLamps x_o_rules_asked_words x_o_rules_forbidden_words x_o_rules_law_length x_o_rules_law_top x_o_rules_law_code x_o_rules_law_stack).bind fun (r7, u8, u9, u10, u11, u12, u13, u14, u15, u16, u17, u18, u19, u20) =>
        some (r7, u8, u9, u10, u11, u12, u13, u14, u15, u16, u17, u18, u19, u20))
      else
        (some ((-12 : Int32), x_o_thought_wall_lamps, x_o_thought_wall_picture, x_o_thought_wall_night, x_o_thought_wall_spent, x_o_thought_wall_had_words, x_o_thought_wall_told_words, x_o_thought_wall_last, x_o_thought_wall_often, x_o_rules_askedForLamps, x_o_rules_asked_words, x_o_rules_forbidden_words, x_o_rules_law_top, x_o_rules_law_stack))))
  else
    (some ((-1 : Int32), x_o_thought_wall_lamps, x_o_thought_wall_picture, x_o_thought_wall_night, x_o_thought_wall_spent, x_o_thought_wall_had_words, x_o_thought_wall_told_words, x_o_thought_wall_last, x_o_thought_wall_often, x_o_rules_askedForLamps, x_o_rules_asked_words, x_o_rules_forbidden_words, x_o_rules_law_top, x_o_rules_law_stack))
set_option maxRecDepth 20000 in
theorem c_OL_judge {l : Launch} {D : va_G} {dA : Nat → ClassId} {a_o a_o_wall a_o_imageOfWall a_o_rules a_o_tape a_o_costs a_o_thought a_o_acts a_o_shelves a_o_shelves_ep1 a_o_shelves_ep1_elements a_o_thought_wall a_o_thought_way a_o_thought_best a_o_wall_had a_o_wall_told a_o_wall_last a_o_wall_often a_o_thought_wall_had a_o_thought_wall_told a_o_thought_wall_last a_o_thought_wall_often a_o_wall_had_words a_o_thought_wall_had_words a_o_wall_told_words a_o_thought_wall_told_words a_o_rules_law a_o_rules_asked a_o_rules_forbidden a_o_rules_asked_words a_o_rules_forbidden_words a_o_rules_law_code a_o_rules_law_stack : Nat} {x_o_imageIsKept : Bool} {x_o_shelves : Nat → Option Nat} {x_o_shelves_ep1_body : Int32} {x_o_thought_bestLength : Int32} {x_o_thought_open : Int32} {x_o_thought_found : Int32} {p1 : Int32} {x_o_shelves_ep1_holds : Int32} {x_o_shelves_ep1_sort : Int32} {x_o_shelves_ep1_length : Int32} {x_o_wall_lamps : Int32} {x_o_wall_picture : Int32} {x_o_wall_night : Int32} {x_o_wall_spent : Int32} {x_o_thought_wall_lamps : Int32} {x_o_thought_wall_picture : Int32} {x_o_thought_wall_night : Int32} {x_o_thought_wall_spent : Int32} {x_o_thought_wall_had_words : Nat → Int64} {x_o_wall_had_words : Nat → Int64} {x_o_thought_wall_told_words : Nat → Int64} {x_o_wall_told_words : Nat → Int64} {x_o_wall_last : Nat → Int32} {x_o_thought_wall_last : Nat → Int32} {x_o_wall_often : Nat → Int32} {x_o_thought_wall_often : Nat → Int32} {x_o_shelves_ep1_elements : Nat → Int64} {x_o_rules_rest : Int32} {x_o_rules_shy : Int32} {x_o_rules_askedForLamps : Int32} {x_o_rules_asked_words : Nat → Int64} {x_o_rules_forbidden_words : Nat → Int64} {x_o_rules_law_length : Int32} {x_o_rules_law_top : Int32} {x_o_rules_law_code : Nat → Int32} {x_o_rules_law_stack : Nat → Int32} {r0 : Int32} {o_x_o_thought_wall_lamps : Int32} {o_x_o_thought_wall_picture : Int32} {o_x_o_thought_wall_night : Int32} {o_x_o_thought_wall_spent : Int32} {o_x_o_thought_wall_had_words : Nat → Int64} {o_x_o_thought_wall_told_words : Nat → Int64} {o_x_o_thought_wall_last : Nat → Int32} {o_x_o_thought_wall_often : Nat → Int32} {o_x_o_rules_askedForLamps : Int32} {o_x_o_rules_asked_words : Nat → Int64} {o_x_o_rules_forbidden_words : Nat → Int64} {o_x_o_rules_law_top : Int32} {o_x_o_rules_law_stack : Nat → Int32}  (he_p1 : x_o_shelves (Int32.toNatClampNeg p1) = some a_o_shelves_ep1) (hf : f_OL_judge  p1 x_o_shelves_ep1_holds x_o_shelves_ep1_sort x_o_shelves_ep1_length x_o_wall_lamps x_o_wall_picture x_o_wall_night x_o_wall_spent x_o_thought_wall_lamps x_o_thought_wall_picture x_o_thought_wall_night x_o_thought_wall_spent x_o_thought_wall_had_words x_o_wall_had_words x_o_thought_wall_told_words x_o_wall_told_words x_o_wall_last x_o_thought_wall_last x_o_wall_often x_o_thought_wall_often x_o_shelves_ep1_elements x_o_rules_rest x_o_rules_shy x_o_rules_askedForLamps x_o_rules_asked_words x_o_rules_forbidden_words x_o_rules_law_length x_o_rules_law_top x_o_rules_law_code x_o_rules_law_stack = some (r0, o_x_o_thought_wall_lamps, o_x_o_thought_wall_picture, o_x_o_thought_wall_night, o_x_o_thought_wall_spent, o_x_o_thought_wall_had_words, o_x_o_thought_wall_told_words, o_x_o_thought_wall_last, o_x_o_thought_wall_often, o_x_o_rules_askedForLamps, o_x_o_rules_asked_words, o_x_o_rules_forbidden_words, o_x_o_rules_law_top, o_x_o_rules_law_stack)) : CT l y_OL_judge prog_1_method_19_code 3 (some .int) { frames := 6, cells := 0, slots := 0, locals := 141 } D dA [.ref a_o, .int p1] [O_OL a_o a_o_wall a_o_imageOfWall x_o_imageIsKept a_o_rules a_o_tape a_o_costs a_o_thought a_o_acts a_o_shelves, A_Q dA a_o_shelves 6 x_o_shelves, O_Sh a_o_shelves_ep1 x_o_shelves_ep1_holds x_o_shelves_ep1_body x_o_shelves_ep1_sort x_o_shelves_ep1_length a_o_shelves_ep1_elements, O_Th a_o_thought a_o_thought_wall a_o_thought_way a_o_thought_best x_o_thought_bestLength x_o_thought_open x_o_thought_found, O_Wa a_o_wall x_o_wall_lamps x_o_wall_picture x_o_wall_night x_o_wall_spent a_o_wall_had a_o_wall_told a_o_wall_last a_o_wall_often, O_Wa a_o_thought_wall x_o_thought_wall_lamps x_o_thought_wall_picture x_o_thought_wall_night x_o_thought_wall_spent a_o_thought_wall_had a_o_thought_wall_told a_o_thought_wall_last a_o_thought_wall_often, O_Pi a_o_wall_had a_o_wall_had_words, O_Pi a_o_thought_wall_had a_o_thought_wall_had_words, A_J dA a_o_thought_wall_had_words 16 x_o_thought_wall_had_words, A_J dA a_o_wall_had_words 16 x_o_wall_had_words, O_Pi a_o_wall_told a_o_wall_told_words, O_Pi a_o_thought_wall_told a_o_thought_wall_told_words, A_J dA a_o_thought_wall_told_words 16 x_o_thought_wall_told_words, A_J dA a_o_wall_told_words 16 x_o_wall_told_words, A_I dA a_o_wall_last 10 x_o_wall_last, A_I dA a_o_thought_wall_last 10 x_o_thought_wall_last, A_I dA a_o_wall_often 10 x_o_wall_often, A_I dA a_o_thought_wall_often 10 x_o_thought_wall_often, A_J dA a_o_shelves_ep1_elements 60 x_o_shelves_ep1_elements, O_Ru a_o_rules x_o_rules_rest x_o_rules_shy a_o_rules_law a_o_rules_asked a_o_rules_forbidden x_o_rules_askedForLamps, O_Pi a_o_rules_asked a_o_rules_asked_words, A_J dA a_o_rules_asked_words 16 x_o_rules_asked_words, O_Pi a_o_rules_forbidden a_o_rules_forbidden_words, A_J dA a_o_rules_forbidden_words 16 x_o_rules_forbidden_words, O_La a_o_rules_law a_o_rules_law_code x_o_rules_law_length a_o_rules_law_stack x_o_rules_law_top, A_I dA a_o_rules_law_code 256 x_o_rules_law_code, A_I dA a_o_rules_law_stack 256 x_o_rules_law_stack] (some (.int r0)) (fun _ : Unit => [O_OL a_o a_o_wall a_o_imageOfWall x_o_imageIsKept a_o_rules a_o_tape a_o_costs a_o_thought a_o_acts a_o_shelves, A_Q dA a_o_shelves 6 x_o_shelves, O_Sh a_o_shelves_ep1 x_o_shelves_ep1_holds x_o_shelves_ep1_body x_o_shelves_ep1_sort x_o_shelves_ep1_length a_o_shelves_ep1_elements, O_Th a_o_thought a_o_thought_wall a_o_thought_way a_o_thought_best x_o_thought_bestLength x_o_thought_open x_o_thought_found, O_Wa a_o_wall x_o_wall_lamps x_o_wall_picture x_o_wall_night x_o_wall_spent a_o_wall_had a_o_wall_told a_o_wall_last a_o_wall_often, O_Wa a_o_thought_wall o_x_o_thought_wall_lamps o_x_o_thought_wall_picture o_x_o_thought_wall_night o_x_o_thought_wall_spent a_o_thought_wall_had a_o_thought_wall_told a_o_thought_wall_last a_o_thought_wall_often, O_Pi a_o_wall_had a_o_wall_had_words, O_Pi a_o_thought_wall_had a_o_thought_wall_had_words, A_J dA a_o_thought_wall_had_words 16 o_x_o_thought_wall_had_words, A_J dA a_o_wall_had_words 16 x_o_wall_had_words, O_Pi a_o_wall_told a_o_wall_told_words, O_Pi a_o_thought_wall_told a_o_thought_wall_told_words, A_J dA a_o_thought_wall_told_words 16 o_x_o_thought_wall_told_words, A_J dA a_o_wall_told_words 16 x_o_wall_told_words, A_I dA a_o_wall_last 10 x_o_wall_last, A_I dA a_o_thought_wall_last 10 o_x_o_thought_wall_last, A_I dA a_o_wall_often 10 x_o_wall_often, A_I dA a_o_thought_wall_often 10 o_x_o_thought_wall_often, A_J dA a_o_shelves_ep1_elements 60 x_o_shelves_ep1_elements, O_Ru a_o_rules x_o_rules_rest x_o_rules_shy a_o_rules_law a_o_rules_asked a_o_rules_forbidden o_x_o_rules_askedForLamps, O_Pi a_o_rules_asked a_o_rules_asked_words, A_J dA a_o_rules_asked_words 16 o_x_o_rules_asked_words, O_Pi a_o_rules_forbidden a_o_rules_forbidden_words, A_J dA a_o_rules_forbidden_words 16 o_x_o_rules_forbidden_words, O_La a_o_rules_law a_o_rules_law_code x_o_rules_law_length a_o_rules_law_stack o_x_o_rules_law_top, A_I dA a_o_rules_law_code 256 x_o_rules_law_code, A_I dA a_o_rules_law_stack 256 o_x_o_rules_law_stack]) := by
  refine ct_intro "OneLamp" rfl (by decide +kernel) (Nat.le_of_ble_eq_true rfl) [(0, .ref a_o), (1, .int p1)] rfl (fun _ C => ?_)
  unfold f_OL_judge at hf
  refine g_iload_n (pc' := 1) C 1 d_OL_judge_0 rfl rfl ?_
  replace hf := g_bi hf; obtain ⟨r1, hc2, hf⟩ := hf
  refine g_callS (pc' := 4) (st1 := [.int (b2i r1)]) (ws1 := [O_OL a_o a_o_wall a_o_imageOfWall x_o_imageIsKept a_o_rules a_o_tape a_o_costs a_o_thought a_o_acts a_o_shelves, A_Q dA a_o_shelves 6 x_o_shelves, O_Sh a_o_shelves_ep1 x_o_shelves_ep1_holds x_o_shelves_ep1_body x_o_shelves_ep1_sort x_o_shelves_ep1_length a_o_shelves_ep1_elements, O_Th a_o_thought a_o_thought_wall a_o_thought_way a_o_thought_best x_o_thought_bestLength x_o_thought_open x_o_thought_found, O_Wa a_o_wall x_o_wall_lamps x_o_wall_picture x_o_wall_night x_o_wall_spent a_o_wall_had a_o_wall_told a_o_wall_last a_o_wall_often, O_Wa a_o_thought_wall x_o_thought_wall_lamps x_o_thought_wall_picture x_o_thought_wall_night x_o_thought_wall_spent a_o_thought_wall_had a_o_thought_wall_told a_o_thought_wall_last a_o_thought_wall_often, O_Pi a_o_wall_had a_o_wall_had_words, O_Pi a_o_thought_wall_had a_o_thought_wall_had_words, A_J dA a_o_thought_wall_had_words 16 x_o_thought_wall_had_words, A_J dA a_o_wall_had_words 16 x_o_wall_had_words, O_Pi a_o_wall_told a_o_wall_told_words, O_Pi a_o_thought_wall_told a_o_thought_wall_told_words, A_J dA a_o_thought_wall_told_words 16 x_o_thought_wall_told_words, A_J dA a_o_wall_told_words 16 x_o_wall_told_words, A_I dA a_o_wall_last 10 x_o_wall_last, A_I dA a_o_thought_wall_last 10 x_o_thought_wall_last, A_I dA a_o_wall_often 10 x_o_wall_often, A_I dA a_o_thought_wall_often 10 x_o_thought_wall_often, A_J dA a_o_shelves_ep1_elements 60 x_o_shelves_ep1_elements, O_Ru a_o_rules x_o_rules_rest x_o_rules_shy a_o_rules_law a_o_rules_asked a_o_rules_forbidden x_o_rules_askedForLamps, O_Pi a_o_rules_asked a_o_rules_asked_words, A_J dA a_o_rules_asked_words 16 x_o_rules_asked_words, O_Pi a_o_rules_forbidden a_o_rules_forbidden_words, A_J dA a_o_rules_forbidden_words 16 x_o_rules_forbidden_words, O_La a_o_rules_law a_o_rules_law_code x_o_rules_law_length a_o_rules_law_stack x_o_rules_law_top, A_I dA a_o_rules_law_code 256 x_o_rules_law_code, A_I dA a_o_rules_law_stack 256 x_o_rules_law_stack]) C (c_OL_isShelf (l := l) (D := D) (dA := dA)    hc2) yy_OL_isShelf mw_2_99 d_OL_judge_1 rfl [] rfl rfl (Nat.le_of_ble_eq_true rfl) ⟨Nat.le_of_ble_eq_true rfl, Nat.le_of_ble_eq_true rfl⟩ rfl rfl (Nat.zero_le _) (Nat.zero_le _) [] rfl (by decide +kernel) rfl (g_lay_sel _ _ _ _ [(0, false), (1, false), (2, false), (3, false), (4, false), (5, false), (6, false), (7, false), (8, false), (9, false), (10, false), (11, false), (12, false), (13, false), (14, false), (15, false), (16, false), (17, false), (18, false), (19, false), (20, false), (21, false), (22, false), (23, false), (24, false), (25, false), (26, false)] (by decide +kernel) rfl (by decide +kernel) rfl rfl) rfl ?_
  refine g_if_neb (pc' := 7) (tgt := 9) C d_OL_judge_4 rfl rfl (fun h => ?_) (fun h => ?_)
  · replace hf := g_bt h hf
    refine g_aload_n (pc' := 10) C 0 d_OL_judge_9 rfl rfl ?_
    refine g_get (pc' := 13) C kf_OL 8 mw_2_52 d_OL_judge_10 rfl 0 rfl (by decide) rfl ?_
    refine g_iload_n (pc' := 14) C 1 d_OL_judge_13 rfl rfl ?_
    have hb := g_ck hf
    replace hf := g_in hb hf
    refine g_aald (pc' := 15) C d_OL_judge_14 rfl 1 rfl hb he_p1 ?_
    refine g_astore_n (pc' := 16) (lv' := [(2, .ref a_o_shelves_ep1), (0, .ref a_o), (1, .int p1)]) C d_OL_judge_15 rfl (by decide) rfl ?_
    refine g_aload_n (pc' := 17) C 0 d_OL_judge_16 rfl rfl ?_
    replace hf := g_bi hf; obtain ⟨r3, hc4, hf⟩ := hf
    refine g_callV (pc' := 20) (st1 := [.int (b2i r3)]) (ws1 := [O_OL a_o a_o_wall a_o_imageOfWall x_o_imageIsKept a_o_rules a_o_tape a_o_costs a_o_thought a_o_acts a_o_shelves, A_Q dA a_o_shelves 6 x_o_shelves, O_Sh a_o_shelves_ep1 x_o_shelves_ep1_holds x_o_shelves_ep1_body x_o_shelves_ep1_sort x_o_shelves_ep1_length a_o_shelves_ep1_elements, O_Th a_o_thought a_o_thought_wall a_o_thought_way a_o_thought_best x_o_thought_bestLength x_o_thought_open x_o_thought_found, O_Wa a_o_wall x_o_wall_lamps x_o_wall_picture x_o_wall_night x_o_wall_spent a_o_wall_had a_o_wall_told a_o_wall_last a_o_wall_often, O_Wa a_o_thought_wall x_o_thought_wall_lamps x_o_thought_wall_picture x_o_thought_wall_night x_o_thought_wall_spent a_o_thought_wall_had a_o_thought_wall_told a_o_thought_wall_last a_o_thought_wall_often, O_Pi a_o_wall_had a_o_wall_had_words, O_Pi a_o_thought_wall_had a_o_thought_wall_had_words, A_J dA a_o_thought_wall_had_words 16 x_o_thought_wall_had_words, A_J dA a_o_wall_had_words 16 x_o_wall_had_words, O_Pi a_o_wall_told a_o_wall_told_words, O_Pi a_o_thought_wall_told a_o_thought_wall_told_words, A_J dA a_o_thought_wall_told_words 16 x_o_thought_wall_told_words, A_J dA a_o_wall_told_words 16 x_o_wall_told_words, A_I dA a_o_wall_last 10 x_o_wall_last, A_I dA a_o_thought_wall_last 10 x_o_thought_wall_last, A_I dA a_o_wall_often 10 x_o_wall_often, A_I dA a_o_thought_wall_often 10 x_o_thought_wall_often, A_J dA a_o_shelves_ep1_elements 60 x_o_shelves_ep1_elements, O_Ru a_o_rules x_o_rules_rest x_o_rules_shy a_o_rules_law a_o_rules_asked a_o_rules_forbidden x_o_rules_askedForLamps, O_Pi a_o_rules_asked a_o_rules_asked_words, A_J dA a_o_rules_asked_words 16 x_o_rules_asked_words, O_Pi a_o_rules_forbidden a_o_rules_forbidden_words, A_J dA a_o_rules_forbidden_words 16 x_o_rules_forbidden_words, O_La a_o_rules_law a_o_rules_law_code x_o_rules_law_length a_o_rules_law_stack x_o_rules_law_top, A_I dA a_o_rules_law_code 256 x_o_rules_law_code, A_I dA a_o_rules_law_stack 256 x_o_rules_law_stack]) C (c_Sh_isEmpty (l := l) (D := D) (dA := dA) (a_o := a_o_shelves_ep1) (a_o_elements := a_o_shelves_ep1_elements) (x_o_body := x_o_shelves_ep1_body) (x_o_sort := x_o_shelves_ep1_sort) (x_o_length := x_o_shelves_ep1_length)   hc4) yy_Sh_isEmpty kf_Sh rfl mw_2_102 d_OL_judge_17 rfl [] rfl rfl (Nat.le_of_ble_eq_true rfl) ⟨Nat.le_of_ble_eq_true rfl, Nat.le_of_ble_eq_true rfl⟩ rfl rfl (Nat.zero_le _) (Nat.zero_le _) 2 rfl [2] rfl (by decide +kernel) rfl (g_lay_sel _ _ _ _ [(0, false), (1, false), (0, true), (3, false), (4, false), (5, false), (6, false), (7, false), (8, false), (9, false), (10, false), (11, false), (12, false), (13, false), (14, false), (15, false), (16, false), (17, false), (18, false), (19, false), (20, false), (21, false), (22, false), (23, false), (24, false), (25, false), (26, false)] (by decide +kernel) rfl (by decide +kernel) rfl rfl) rfl ?_
    refine g_if_eqb (pc' := 23) (tgt := 26) C d_OL_judge_20 rfl rfl (fun h => ?_) (fun h => ?_)
    · replace hf := g_bf h hf
      refine g_aload_n (pc' := 27) C 0 d_OL_judge_26 rfl rfl ?_
      refine g_iconst (pc' := 28) (v := 1) C d_OL_judge_27 rfl rfl ?_
      replace hf := g_bi hf; obtain ⟨r5, hc6, hf⟩ := hf
      refine g_callV (pc' := 31) (st1 := [.int (b2i r5)]) (ws1 := [O_OL a_o a_o_wall a_o_imageOfWall x_o_imageIsKept a_o_rules a_o_tape a_o_costs a_o_thought a_o_acts a_o_shelves, A_Q dA a_o_shelves 6 x_o_shelves, O_Sh a_o_shelves_ep1 x_o_shelves_ep1_holds x_o_shelves_ep1_body x_o_shelves_ep1_sort x_o_shelves_ep1_length a_o_shelves_ep1_elements, O_Th a_o_thought a_o_thought_wall a_o_thought_way a_o_thought_best x_o_thought_bestLength x_o_thought_open x_o_thought_found, O_Wa a_o_wall x_o_wall_lamps x_o_wall_picture x_o_wall_night x_o_wall_spent a_o_wall_had a_o_wall_told a_o_wall_last a_o_wall_often, O_Wa a_o_thought_wall x_o_thought_wall_lamps x_o_thought_wall_picture x_o_thought_wall_night x_o_thought_wall_spent a_o_thought_wall_had a_o_thought_wall_told a_o_thought_wall_last a_o_thought_wall_often, O_Pi a_o_wall_had a_o_wall_had_words, O_Pi a_o_thought_wall_had a_o_thought_wall_had_words, A_J dA a_o_thought_wall_had_words 16 x_o_thought_wall_had_words, A_J dA a_o_wall_had_words 16 x_o_wall_had_words, O_Pi a_o_wall_told a_o_wall_told_words, O_Pi a_o_thought_wall_told a_o_thought_wall_told_words, A_J dA a_o_thought_wall_told_words 16 x_o_thought_wall_told_words, A_J dA a_o_wall_told_words 16 x_o_wall_told_words, A_I dA a_o_wall_last 10 x_o_wall_last, A_I dA a_o_thought_wall_last 10 x_o_thought_wall_last, A_I dA a_o_wall_often 10 x_o_wall_often, A_I dA a_o_thought_wall_often 10 x_o_thought_wall_often, A_J dA a_o_shelves_ep1_elements 60 x_o_shelves_ep1_elements, O_Ru a_o_rules x_o_rules_rest x_o_rules_shy a_o_rules_law a_o_rules_asked a_o_rules_forbidden x_o_rules_askedForLamps, O_Pi a_o_rules_asked a_o_rules_asked_words, A_J dA a_o_rules_asked_words 16 x_o_rules_asked_words, O_Pi a_o_rules_forbidden a_o_rules_forbidden_words, A_J dA a_o_rules_forbidden_words 16 x_o_rules_forbidden_words, O_La a_o_rules_law a_o_rules_law_code x_o_rules_law_length a_o_rules_law_stack x_o_rules_law_top, A_I dA a_o_rules_law_code 256 x_o_rules_law_code, A_I dA a_o_rules_law_stack 256 x_o_rules_law_stack]) C (c_Sh_isRowOf (l := l) (D := D) (dA := dA) (a_o := a_o_shelves_ep1) (a_o_elements := a_o_shelves_ep1_elements) (x_o_body := x_o_shelves_ep1_body) (x_o_length := x_o_shelves_ep1_length)   hc6) yy_Sh_isRowOf kf_Sh rfl mw_2_106 d_OL_judge_28 rfl [] rfl rfl (Nat.le_of_ble_eq_true rfl) ⟨Nat.le_of_ble_eq_true rfl, Nat.le_of_ble_eq_true rfl⟩ rfl rfl (Nat.zero_le _) (Nat.zero_le _) 2 rfl [2] rfl (by decide +kernel) rfl (g_lay_sel _ _ _ _ [(0, false), (1, false), (0, true), (3, false), (4, false), (5, false), (6, false), (7, false), (8, false), (9, false), (10, false), (11, false), (12, false), (13, false), (14, false), (15, false), (16, false), (17, false), (18, false), (19, false), (20, false), (21, false), (22, false), (23, false), (24, false), (25, false), (26, false)] (by decide +kernel) rfl (by decide +kernel) rfl rfl) rfl ?_
      refine g_if_neb (pc' := 34) (tgt := 37) C d_OL_judge_31 rfl rfl (fun h => ?_) (fun h => ?_)
      · replace hf := g_bt h hf
        refine g_aload_n (pc' := 38) C 1 d_OL_judge_37 rfl rfl ?_
        refine g_get (pc' := 41) C kf_OL 6 mw_2_50 d_OL_judge_38 rfl 0 rfl (by decide) rfl ?_
        refine g_aload_n (pc' := 42) C 1 d_OL_judge_41 rfl rfl ?_
        refine g_get (pc' := 45) C kf_OL 0 mw_2_44 d_OL_judge_42 rfl 0 rfl (by decide) rfl ?_
        refine g_aload_n (pc' := 46) C 1 d_OL_judge_45 rfl rfl ?_
        refine g_get (pc' := 49) C kf_OL 3 mw_2_47 d_OL_judge_46 rfl 0 rfl (by decide) rfl ?_
        refine g_aload_n (pc' := 50) C 0 d_OL_judge_49 rfl rfl ?_
        replace hf := g_bi hf; obtain ⟨⟨r7, u8, u9, u10, u11, u12, u13, u14, u15, u16, u17, u18, u19, u20⟩, hc21, hf⟩ := hf
        dsimp only at hf
        refine g_callV (pc' := 53) (st1 := [.int r7]) (ws1 := [O_OL a_o a_o_wall a_o_imageOfWall x_o_imageIsKept a_o_rules a_o_tape a_o_costs a_o_thought a_o_acts a_o_shelves, A_Q dA a_o_shelves 6 x_o_shelves, O_Sh a_o_shelves_ep1 x_o_shelves_ep1_holds x_o_shelves_ep1_body x_o_shelves_ep1_sort x_o_shelves_ep1_length a_o_shelves_ep1_elements, O_Th a_o_thought a_o_thought_wall a_o_thought_way a_o_thought_best x_o_thought_bestLength x_o_thought_open x_o_thought_found, O_Wa a_o_wall x_o_wall_lamps x_o_wall_picture x_o_wall_night x_o_wall_spent a_o_wall_had a_o_wall_told a_o_wall_last a_o_wall_often, O_Wa a_o_thought_wall u8 u9 u10 u11 a_o_thought_wall_had a_o_thought_wall_told a_o_thought_wall_last a_o_thought_wall_often, O_Pi a_o_wall_had a_o_wall_had_words, O_Pi a_o_thought_wall_had a_o_thought_wall_had_words, A_J dA a_o_thought_wall_had_words 16 u12, A_J dA a_o_wall_had_words 16 x_o_wall_had_words, O_Pi a_o_wall_told a_o_wall_told_words, O_Pi a_o_thought_wall_told a_o_thought_wall_told_words, A_J dA a_o_thought_wall_told_words 16 u13, A_J dA a_o_wall_told_words 16 x_o_wall_told_words, A_I dA a_o_wall_last 10 x_o_wall_last, A_I dA a_o_thought_wall_last 10 u14, A_I dA a_o_wall_often 10 x_o_wall_often, A_I dA a_o_thought_wall_often 10 u15, A_J dA a_o_shelves_ep1_elements 60 x_o_shelves_ep1_elements, O_Ru a_o_rules x_o_rules_rest x_o_rules_shy a_o_rules_law a_o_rules_asked a_o_rules_forbidden u16, O_Pi a_o_rules_asked a_o_rules_asked_words, A_J dA a_o_rules_asked_words 16 u17, O_Pi a_o_rules_forbidden a_o_rules_forbidden_words, A_J dA a_o_rules_forbidden_words 16 u18, O_La a_o_rules_law a_o_rules_law_code x_o_rules_law_length a_o_rules_law_stack u19, A_I dA a_o_rules_law_code 256 x_o_rules_law_code, A_I dA a_o_rules_law_stack 256 u20]) C (c_Th_firstWrong (l := l) (D := D) (dA := dA) (a_o := a_o_thought) (a_p1 := a_o_wall) (a_p2 := a_o_rules) (a_p3 := a_o_shelves_ep1) (a_o_wall := a_o_thought_wall) (a_o_way := a_o_thought_way) (a_o_best := a_o_thought_best) (a_p1_had := a_o_wall_had) (a_p1_told := a_o_wall_told) (a_p1_last := a_o_wall_last) (a_p1_often := a_o_wall_often) (a_o_wall_had := a_o_thought_wall_had) (a_o_wall_told := a_o_thought_wall_told) (a_o_wall_last := a_o_thought_wall_last) (a_o_wall_often := a_o_thought_wall_often) (a_p1_had_words := a_o_wall_had_words) (a_o_wall_had_words := a_o_thought_wall_had_words) (a_p1_told_words := a_o_wall_told_words) (a_o_wall_told_words := a_o_thought_wall_told_words) (a_p3_elements := a_o_shelves_ep1_elements) (a_p2_law := a_o_rules_law) (a_p2_asked := a_o_rules_asked) (a_p2_forbidden := a_o_rules_forbidden) (a_p2_asked_words := a_o_rules_asked_words) (a_p2_forbidden_words := a_o_rules_forbidden_words) (a_p2_law_code := a_o_rules_law_code) (a_p2_law_stack := a_o_rules_law_stack) (x_o_bestLength := x_o_thought_bestLength) (x_o_open := x_o_thought_open) (x_o_found := x_o_thought_found) (x_p3_body := x_o_shelves_ep1_body) (x_p3_sort := x_o_shelves_ep1_sort)   hc21) yy_Th_firstWrong kf_Th rfl mw_3_175 d_OL_judge_50 rfl [] rfl rfl (Nat.le_of_ble_eq_true rfl) ⟨Nat.le_of_ble_eq_true rfl, Nat.le_of_ble_eq_true rfl⟩ rfl rfl (Nat.zero_le _) (Nat.zero_le _) 3 rfl [3, 4, 5, 6, 7, 8, 9, 10, 11, 12, 13, 14, 15, 16, 17, 2, 18, 19, 20, 21, 22, 23, 24, 25, 26] rfl (by decide +kernel) rfl (g_lay_sel _ _ _ _ [(0, false), (1, false), (15, true), (0, true), (1, true), (2, true), (3, true), (4, true), (5, true), (6, true), (7, true), (8, true), (9, true), (10, true), (11, true), (12, true), (13, true), (14, true), (16, true), (17, true), (18, true), (19, true), (20, true), (21, true), (22, true), (23, true), (24, true)] (by decide +kernel) rfl (by decide +kernel) rfl rfl) rfl ?_
        replace hf := g_o2 hf; obtain ⟨h1, hf⟩ := hf; subst h1
        replace hf := g_o2 hf; obtain ⟨h1, hf⟩ := hf; subst h1
        replace hf := g_o2 hf; obtain ⟨h1, hf⟩ := hf; subst h1
        replace hf := g_o2 hf; obtain ⟨h1, hf⟩ := hf; subst h1
        replace hf := g_o2 hf; obtain ⟨h1, hf⟩ := hf; subst h1
        replace hf := g_o2 hf; obtain ⟨h1, hf⟩ := hf; subst h1
        replace hf := g_o2 hf; obtain ⟨h1, hf⟩ := hf; subst h1
        replace hf := g_o2 hf; obtain ⟨h1, hf⟩ := hf; subst h1
        replace hf := g_o2 hf; obtain ⟨h1, hf⟩ := hf; subst h1
        replace hf := g_o2 hf; obtain ⟨h1, hf⟩ := hf; subst h1
        replace hf := g_o2 hf; obtain ⟨h1, hf⟩ := hf; subst h1
        replace hf := g_o2 hf; obtain ⟨h1, hf⟩ := hf; subst h1
        replace hf := g_o2 hf; obtain ⟨h1, hf⟩ := hf; subst h1
        replace hf := Option.some.inj hf; subst hf
        exact g_iret C d_OL_judge_53 () rfl
      · replace hf := g_bf h hf
        refine g_bipush (pc' := 36) (v := (-12)) C d_OL_judge_34 rfl rfl ?_
        replace hf := g_o2 hf; obtain ⟨h1, hf⟩ := hf; subst h1
        replace hf := g_o2 hf; obtain ⟨h1, hf⟩ := hf; subst h1
        replace hf := g_o2 hf; obtain ⟨h1, hf⟩ := hf; subst h1
        replace hf := g_o2 hf; obtain ⟨h1, hf⟩ := hf; subst h1
        replace hf := g_o2 hf; obtain ⟨h1, hf⟩ := hf; subst h1
        replace hf := g_o2 hf; obtain ⟨h1, hf⟩ := hf; subst h1
        replace hf := g_o2 hf; obtain ⟨h1, hf⟩ := hf; subst h1
        replace hf := g_o2 hf; obtain ⟨h1, hf⟩ := hf; subst h1
        replace hf := g_o2 hf; obtain ⟨h1, hf⟩ := hf; subst h1
        replace hf := g_o2 hf; obtain ⟨h1, hf⟩ := hf; subst h1
        replace hf := g_o2 hf; obtain ⟨h1, hf⟩ := hf; subst h1
        replace hf := g_o2 hf; obtain ⟨h1, hf⟩ := hf; subst h1
        replace hf := g_o2 hf; obtain ⟨h1, hf⟩ := hf; subst h1
        replace hf := Option.some.inj hf; subst hf
        exact g_iret C d_OL_judge_36 () rfl
    · replace hf := g_bt h hf
      refine g_bipush (pc' := 25) (v := (-11)) C d_OL_judge_23 rfl rfl ?_
      replace hf := g_o2 hf; obtain ⟨h1, hf⟩ := hf; subst h1
      replace hf := g_o2 hf; obtain ⟨h1, hf⟩ := hf; subst h1
      replace hf := g_o2 hf; obtain ⟨h1, hf⟩ := hf; subst h1
      replace hf := g_o2 hf; obtain ⟨h1, hf⟩ := hf; subst h1
      replace hf := g_o2 hf; obtain ⟨h1, hf⟩ := hf; subst h1
      replace hf := g_o2 hf; obtain ⟨h1, hf⟩ := hf; subst h1
      replace hf := g_o2 hf; obtain ⟨h1, hf⟩ := hf; subst h1
      replace hf := g_o2 hf; obtain ⟨h1, hf⟩ := hf; subst h1
      replace hf := g_o2 hf; obtain ⟨h1, hf⟩ := hf; subst h1
      replace hf := g_o2 hf; obtain ⟨h1, hf⟩ := hf; subst h1
      replace hf := g_o2 hf; obtain ⟨h1, hf⟩ := hf; subst h1
      replace hf := g_o2 hf; obtain ⟨h1, hf⟩ := hf; subst h1
      replace hf := g_o2 hf; obtain ⟨h1, hf⟩ := hf; subst h1
      replace hf := Option.some.inj hf; subst hf
      exact g_iret C d_OL_judge_25 () rfl
  · replace hf := g_bf h hf
    refine g_iconst (pc' := 8) (v := (-1)) C d_OL_judge_7 rfl rfl ?_
    replace hf := g_o2 hf; obtain ⟨h1, hf⟩ := hf; subst h1
    replace hf := g_o2 hf; obtain ⟨h1, hf⟩ := hf; subst h1
    replace hf := g_o2 hf; obtain ⟨h1, hf⟩ := hf; subst h1
    replace hf := g_o2 hf; obtain ⟨h1, hf⟩ := hf; subst h1
    replace hf := g_o2 hf; obtain ⟨h1, hf⟩ := hf; subst h1
    replace hf := g_o2 hf; obtain ⟨h1, hf⟩ := hf; subst h1
    replace hf := g_o2 hf; obtain ⟨h1, hf⟩ := hf; subst h1
    replace hf := g_o2 hf; obtain ⟨h1, hf⟩ := hf; subst h1
    replace hf := g_o2 hf; obtain ⟨h1, hf⟩ := hf; subst h1
    replace hf := g_o2 hf; obtain ⟨h1, hf⟩ := hf; subst h1
    replace hf := g_o2 hf; obtain ⟨h1, hf⟩ := hf; subst h1
    replace hf := g_o2 hf; obtain ⟨h1, hf⟩ := hf; subst h1
    replace hf := g_o2 hf; obtain ⟨h1, hf⟩ := hf; subst h1
    replace hf := Option.some.inj hf; subst hf
    exact g_iret C d_OL_judge_8 () rfl
def y_OL_nightOf : MethodName := ⟨"OneLamp", "nightOf", "(J)J"⟩
theorem yy_OL_nightOf : YS y_OL_nightOf prog_1_method_39_code 5 (some .long) 1 := ⟨mw_3_193, mw_1_1, mw_3_192, by decide +kernel, by decide +kernel, by decide +kernel⟩
theorem d_OL_nightOf_0 : decode prog_1_method_39_code 0 = .ok (.lload_n 0, 1) := by decide +kernel
theorem d_OL_nightOf_1 : decode prog_1_method_39_code 1 = .ok (.lstore_n 2, 1) := by decide +kernel
theorem d_OL_nightOf_2 : decode prog_1_method_39_code 2 = .ok (.iconst 1, 1) := by decide +kernel
theorem d_OL_nightOf_3 : decode prog_1_method_39_code 3 = .ok (.istore 4, 2) := by decide +kernel
theorem d_OL_nightOf_5 : decode prog_1_method_39_code 5 = .ok (.iload 4, 2) := by decide +kernel
theorem d_OL_nightOf_7 : decode prog_1_method_39_code 7 = .ok (.bipush 64, 2) := by decide +kernel
theorem d_OL_nightOf_9 : decode prog_1_method_39_code 9 = .ok (.if_icmp .ge 19, 3) := by decide +kernel
theorem d_OL_nightOf_12 : decode prog_1_method_39_code 12 = .ok (.lload_n 2, 1) := by decide +kernel
theorem d_OL_nightOf_13 : decode prog_1_method_39_code 13 = .ok (.lload_n 2, 1) := by decide +kernel
theorem d_OL_nightOf_14 : decode prog_1_method_39_code 14 = .ok (.iload 4, 2) := by decide +kernel
theorem d_OL_nightOf_16 : decode prog_1_method_39_code 16 = .ok (.lshr, 1) := by decide +kernel
theorem d_OL_nightOf_17 : decode prog_1_method_39_code 17 = .ok (.lxor, 1) := by decide +kernel
theorem d_OL_nightOf_18 : decode prog_1_method_39_code 18 = .ok (.lstore_n 2, 1) := by decide +kernel
theorem d_OL_nightOf_19 : decode prog_1_method_39_code 19 = .ok (.iload 4, 2) := by decide +kernel
theorem d_OL_nightOf_21 : decode prog_1_method_39_code 21 = .ok (.iconst 2, 1) := by decide +kernel
theorem d_OL_nightOf_22 : decode prog_1_method_39_code 22 = .ok (.imul, 1) := by decide +kernel
theorem d_OL_nightOf_23 : decode prog_1_method_39_code 23 = .ok (.istore 4, 2) := by decide +kernel
theorem d_OL_nightOf_25 : decode prog_1_method_39_code 25 = .ok (.goto (-20), 3) := by decide +kernel
theorem d_OL_nightOf_28 : decode prog_1_method_39_code 28 = .ok (.lload_n 2, 1) := by decide +kernel
theorem d_OL_nightOf_29 : decode prog_1_method_39_code 29 = .ok (.lreturn, 1) := by decide +kernel
def f_OL_nightOf_L5   : Nat → Int64 → Int32 → Option (Int64)
  | 0, _, _ => none
  | n + 1, v2, v4 =>
    if (64 : Int32) ≤ v4 then
      (some (v2))
    else
      (f_OL_nightOf_L5  n (v2 ^^^ (v2 >>> (Int32.toInt64 v4 &&& 63))) (v4 * (2 : Int32)))
set_option maxRecDepth 20000 in
theorem w_OL_nightOf_L5 {p : Program} {l : Launch} {e : Env} {s : State} {m : MethodId} {args : Array Value} {below : List Frame} {meth : Method} {c : Code} {D : va_G} {dA : Nat → ClassId} {A : Nat → Prop} (C : GC p s m args meth c prog_1_method_39_code 5 "OneLamp" (some .long) D dA A)   {r0 : Int64}    : ∀ (n : Nat) (v2 : Int64) (v4 : Int32), f_OL_nightOf_L5   n v2 v4 = some r0 → GG p l e { frames := 0, cells := 0, slots := 0, locals := 0 } s m args below meth c 5 D A 0 0 (MQ below (cQ D A (some (.long r0)) (fun _ : Unit => [])) args s 0 0 A) 5 [(2, .long v2), (4, .int v4)] [] [] := by
  intro n
  induction n with
  | zero =>
    intro v2 v4 hf
    cases hf
  | succ n ih =>
    intro v2 v4 hf
    unfold f_OL_nightOf_L5 at hf
    refine g_iload (pc' := 7) C 1 d_OL_nightOf_5 rfl rfl ?_
    refine g_bipush (pc' := 9) (v := 64) C d_OL_nightOf_7 rfl rfl ?_
    refine g_icmp_ge (pc' := 12) (tgt := 28) C d_OL_nightOf_9 rfl rfl (fun h => ?_) (fun h => ?_)
    · replace hf := g_ip h hf
      refine g_lload_n (pc' := 29) C 0 d_OL_nightOf_28 rfl rfl ?_
      replace hf := Option.some.inj hf; subst hf
      exact g_lret C d_OL_nightOf_29 () rfl
    · replace hf := g_in h hf
      refine g_lload_n (pc' := 13) C 0 d_OL_nightOf_12 rfl rfl ?_
      refine g_lload_n (pc' := 14) C 0 d_OL_nightOf_13 rfl rfl ?_
      refine g_iload (pc' := 16) C 1 d_OL_nightOf_14 rfl rfl ?_
      refine g_lshr (pc' := 17) C d_OL_nightOf_16 rfl ?_
      refine g_lxor (pc' := 18) C d_OL_nightOf_17 rfl ?_
      refine g_lstore_n (pc' := 19) (lv' := [(2, .long (v2 ^^^ (v2 >>> (Int32.toInt64 v4 &&& 63)))), (4, .int v4)]) C d_OL_nightOf_18 rfl (by decide) rfl ?_
      refine g_iload (pc' := 21) C 1 d_OL_nightOf_19 rfl rfl ?_
      refine g_iconst (pc' := 22) (v := 2) C d_OL_nightOf_21 rfl rfl ?_
      refine g_imul (pc' := 23) C d_OL_nightOf_22 rfl ?_
      refine g_istore (pc' := 25) (lv' := [(4, .int (v4 * (2 : Int32))), (2, .long (v2 ^^^ (v2 >>> (Int32.toInt64 v4 &&& 63))))]) C d_OL_nightOf_23 rfl (by decide) rfl ?_
      refine g_goto (tgt := 5) C d_OL_nightOf_25 rfl ?_
      refine g_lv (lv' := [(2, .long (v2 ^^^ (v2 >>> (Int32.toInt64 v4 &&& 63)))), (4, .int (v4 * (2 : Int32)))]) [1, 0] rfl ?_
      exact ih (v2 ^^^ (v2 >>> (Int32.toInt64 v4 &&& 63))) (v4 * (2 : Int32)) hf
def f_OL_nightOf  (p0 : Int64) : Option (Int64) :=
  f_OL_nightOf_L5  3000 p0 (1 : Int32)
set_option maxRecDepth 20000 in
theorem c_OL_nightOf {l : Launch} {D : va_G} {dA : Nat → ClassId}   {p0 : Int64} {r0 : Int64}   (hf : f_OL_nightOf  p0 = some r0) : CT l y_OL_nightOf prog_1_method_39_code 5 (some .long) { frames := 0, cells := 0, slots := 0, locals := 0 } D dA [.long p0] [] (some (.long r0)) (fun _ : Unit => []) := by
  refine ct_intro "OneLamp" rfl (by decide +kernel) (Nat.le_of_ble_eq_true rfl) [(0, .long p0)] rfl (fun _ C => ?_)
  unfold f_OL_nightOf at hf
  refine g_lload_n (pc' := 1) C 0 d_OL_nightOf_0 rfl rfl ?_
  refine g_lstore_n (pc' := 2) (lv' := [(2, .long p0), (0, .long p0)]) C d_OL_nightOf_1 rfl (by decide) rfl ?_
  refine g_iconst (pc' := 3) (v := 1) C d_OL_nightOf_2 rfl rfl ?_
  refine g_istore (pc' := 5) (lv' := [(4, .int 1), (2, .long p0), (0, .long p0)]) C d_OL_nightOf_3 rfl (by decide) rfl ?_
  refine g_lv (lv' := [(2, .long p0), (4, .int (1 : Int32))]) [1, 0] rfl ?_
  exact w_OL_nightOf_L5  C   3000 p0 (1 : Int32) hf
def y_OL_lampOf : MethodName := ⟨"OneLamp", "lampOf", "(J)I"⟩
theorem yy_OL_lampOf : YS y_OL_lampOf prog_1_method_40_code 3 (some .int) 1 := ⟨mw_3_196, mw_1_1, mw_3_195, by decide +kernel, by decide +kernel, by decide +kernel⟩
theorem d_OL_lampOf_0 : decode prog_1_method_40_code 0 = .ok (.iconst 0, 1) := by decide +kernel
theorem d_OL_lampOf_1 : decode prog_1_method_40_code 1 = .ok (.istore_n 2, 1) := by decide +kernel
theorem d_OL_lampOf_2 : decode prog_1_method_40_code 2 = .ok (.iload_n 2, 1) := by decide +kernel
theorem d_OL_lampOf_3 : decode prog_1_method_40_code 3 = .ok (.bipush 62, 2) := by decide +kernel
theorem d_OL_lampOf_5 : decode prog_1_method_40_code 5 = .ok (.if_icmp .ge 21, 3) := by decide +kernel
theorem d_OL_lampOf_8 : decode prog_1_method_40_code 8 = .ok (.lload_n 0, 1) := by decide +kernel
theorem d_OL_lampOf_9 : decode prog_1_method_40_code 9 = .ok (.iload_n 2, 1) := by decide +kernel
theorem d_OL_lampOf_10 : decode prog_1_method_40_code 10 = .ok (.lshr, 1) := by decide +kernel
theorem d_OL_lampOf_11 : decode prog_1_method_40_code 11 = .ok (.lconst 1, 1) := by decide +kernel
theorem d_OL_lampOf_12 : decode prog_1_method_40_code 12 = .ok (.land, 1) := by decide +kernel
theorem d_OL_lampOf_13 : decode prog_1_method_40_code 13 = .ok (.lconst 1, 1) := by decide +kernel
theorem d_OL_lampOf_14 : decode prog_1_method_40_code 14 = .ok (.lcmp, 1) := by decide +kernel
theorem d_OL_lampOf_15 : decode prog_1_method_40_code 15 = .ok (.ifCond .ne 5, 3) := by decide +kernel
theorem d_OL_lampOf_18 : decode prog_1_method_40_code 18 = .ok (.iload_n 2, 1) := by decide +kernel
theorem d_OL_lampOf_19 : decode prog_1_method_40_code 19 = .ok (.ireturn, 1) := by decide +kernel
theorem d_OL_lampOf_20 : decode prog_1_method_40_code 20 = .ok (.iinc 2 1, 3) := by decide +kernel
theorem d_OL_lampOf_23 : decode prog_1_method_40_code 23 = .ok (.goto (-21), 3) := by decide +kernel
theorem d_OL_lampOf_26 : decode prog_1_method_40_code 26 = .ok (.bipush (-2), 2) := by decide +kernel
theorem d_OL_lampOf_28 : decode prog_1_method_40_code 28 = .ok (.ireturn, 1) := by decide +kernel
def f_OL_lampOf_L2   : Nat → Int64 → Int32 → Option (Int32)
  | 0, _, _ => none
  | n + 1, v0, v2 =>
    if (62 : Int32) ≤ v2 then
      (some ((-2 : Int32)))
    else
      (if (lg_cmp ((v0 >>> (Int32.toInt64 v2 &&& 63)) &&& (1 : Int64)) (1 : Int64)) = 0 then
        (some (v2))
      else
        (f_OL_lampOf_L2  n v0 (v2 + 1)))
set_option maxRecDepth 20000 in
theorem w_OL_lampOf_L2 {p : Program} {l : Launch} {e : Env} {s : State} {m : MethodId} {args : Array Value} {below : List Frame} {meth : Method} {c : Code} {D : va_G} {dA : Nat → ClassId} {A : Nat → Prop} (C : GC p s m args meth c prog_1_method_40_code 3 "OneLamp" (some .int) D dA A)   {r0 : Int32}    : ∀ (n : Nat) (v0 : Int64) (v2 : Int32), f_OL_lampOf_L2   n v0 v2 = some r0 → GG p l e { frames := 0, cells := 0, slots := 0, locals := 0 } s m args below meth c 3 D A 0 0 (MQ below (cQ D A (some (.int r0)) (fun _ : Unit => [])) args s 0 0 A) 2 [(0, .long v0), (2, .int v2)] [] [] := by
  intro n
  induction n with
  | zero =>
    intro v0 v2 hf
    cases hf
  | succ n ih =>
    intro v0 v2 hf
    unfold f_OL_lampOf_L2 at hf
    refine g_iload_n (pc' := 3) C 1 d_OL_lampOf_2 rfl rfl ?_
    refine g_bipush (pc' := 5) (v := 62) C d_OL_lampOf_3 rfl rfl ?_
    refine g_icmp_ge (pc' := 8) (tgt := 26) C d_OL_lampOf_5 rfl rfl (fun h => ?_) (fun h => ?_)
    · replace hf := g_ip h hf
      refine g_bipush (pc' := 28) (v := (-2)) C d_OL_lampOf_26 rfl rfl ?_
      replace hf := Option.some.inj hf; subst hf
      exact g_iret C d_OL_lampOf_28 () rfl
    · replace hf := g_in h hf
      refine g_lload_n (pc' := 9) C 0 d_OL_lampOf_8 rfl rfl ?_
      refine g_iload_n (pc' := 10) C 1 d_OL_lampOf_9 rfl rfl ?_
      refine g_lshr (pc' := 11) C d_OL_lampOf_10 rfl ?_
      refine g_lconst (pc' := 12) (v := 1) C d_OL_lampOf_11 rfl rfl ?_
      refine g_land (pc' := 13) C d_OL_lampOf_12 rfl ?_
      refine g_lconst (pc' := 14) (v := 1) C d_OL_lampOf_13 rfl rfl ?_
      refine g_lcmp (pc' := 15) C d_OL_lampOf_14 rfl ?_
      refine g_if_ne (pc' := 18) (tgt := 20) C d_OL_lampOf_15 rfl rfl (fun h => ?_) (fun h => ?_)
      · replace hf := g_in h hf
        refine g_iinc (pc' := 23) (j := 1) (v := (v2 + 1)) (lv' := [(2, .int (v2 + 1)), (0, .long v0)]) C d_OL_lampOf_20 rfl rfl rfl (by decide) rfl ?_
        refine g_goto (tgt := 2) C d_OL_lampOf_23 rfl ?_
        refine g_lv (lv' := [(0, .long v0), (2, .int (v2 + 1))]) [1, 0] rfl ?_
        exact ih v0 (v2 + 1) hf
      · replace hf := g_ip h hf
        refine g_iload_n (pc' := 19) C 1 d_OL_lampOf_18 rfl rfl ?_
        replace hf := Option.some.inj hf; subst hf
        exact g_iret C d_OL_lampOf_19 () rfl
def f_OL_lampOf  (p0 : Int64) : Option (Int32) :=
  f_OL_lampOf_L2  3000 p0 (0 : Int32)
set_option maxRecDepth 20000 in
theorem c_OL_lampOf {l : Launch} {D : va_G} {dA : Nat → ClassId}   {p0 : Int64} {r0 : Int32}   (hf : f_OL_lampOf  p0 = some r0) : CT l y_OL_lampOf prog_1_method_40_code 3 (some .int) { frames := 0, cells := 0, slots := 0, locals := 0 } D dA [.long p0] [] (some (.int r0)) (fun _ : Unit => []) := by
  refine ct_intro "OneLamp" rfl (by decide +kernel) (Nat.le_of_ble_eq_true rfl) [(0, .long p0)] rfl (fun _ C => ?_)
  unfold f_OL_lampOf at hf
  refine g_iconst (pc' := 1) (v := 0) C d_OL_lampOf_0 rfl rfl ?_
  refine g_istore_n (pc' := 2) (lv' := [(2, .int 0), (0, .long p0)]) C d_OL_lampOf_1 rfl (by decide) rfl ?_
  refine g_lv (lv' := [(0, .long p0), (2, .int (0 : Int32))]) [1, 0] rfl ?_
  exact w_OL_lampOf_L2  C   3000 p0 (0 : Int32) hf
def y_OL_mirror : MethodName := ⟨"OneLamp", "mirror", "(JI)J"⟩
theorem yy_OL_mirror : YV y_OL_mirror prog_1_method_20_code 4 (some .long) 2 := ⟨mw_3_188, mw_1_1, mw_3_186, mw_3_187, by decide +kernel, by decide +kernel, by decide +kernel⟩
theorem d_OL_mirror_0 : decode prog_1_method_20_code 0 = .ok (.lload_n 1, 1) := by decide +kernel
theorem d_OL_mirror_1 : decode prog_1_method_20_code 1 = .ok (.lconst 0, 1) := by decide +kernel
theorem d_OL_mirror_2 : decode prog_1_method_20_code 2 = .ok (.lcmp, 1) := by decide +kernel
theorem d_OL_mirror_3 : decode prog_1_method_20_code 3 = .ok (.ifCond .lt 11, 3) := by decide +kernel
theorem d_OL_mirror_6 : decode prog_1_method_20_code 6 = .ok (.lload_n 1, 1) := by decide +kernel
theorem d_OL_mirror_7 : decode prog_1_method_20_code 7 = .ok (.ldc2_w 201, 3) := by decide +kernel
theorem d_OL_mirror_10 : decode prog_1_method_20_code 10 = .ok (.lcmp, 1) := by decide +kernel
theorem d_OL_mirror_11 : decode prog_1_method_20_code 11 = .ok (.ifCond .lt 7, 3) := by decide +kernel
theorem d_OL_mirror_14 : decode prog_1_method_20_code 14 = .ok (.ldc2_w 203, 3) := by decide +kernel
theorem d_OL_mirror_17 : decode prog_1_method_20_code 17 = .ok (.lreturn, 1) := by decide +kernel
theorem d_OL_mirror_18 : decode prog_1_method_20_code 18 = .ok (.iload_n 3, 1) := by decide +kernel
theorem d_OL_mirror_19 : decode prog_1_method_20_code 19 = .ok (.tableswitch 42 0 2 #[25, 31, 36], 25) := by decide +kernel
theorem d_OL_mirror_44 : decode prog_1_method_20_code 44 = .ok (.lload_n 1, 1) := by decide +kernel
theorem d_OL_mirror_45 : decode prog_1_method_20_code 45 = .ok (.lload_n 1, 1) := by decide +kernel
theorem d_OL_mirror_46 : decode prog_1_method_20_code 46 = .ok (.iconst 1, 1) := by decide +kernel
theorem d_OL_mirror_47 : decode prog_1_method_20_code 47 = .ok (.lshr, 1) := by decide +kernel
theorem d_OL_mirror_48 : decode prog_1_method_20_code 48 = .ok (.lxor, 1) := by decide +kernel
theorem d_OL_mirror_49 : decode prog_1_method_20_code 49 = .ok (.lreturn, 1) := by decide +kernel
theorem d_OL_mirror_50 : decode prog_1_method_20_code 50 = .ok (.lload_n 1, 1) := by decide +kernel
theorem d_OL_mirror_51 : decode prog_1_method_20_code 51 = .ok (.invokestatic 205, 3) := by decide +kernel
theorem d_OL_mirror_54 : decode prog_1_method_20_code 54 = .ok (.lreturn, 1) := by decide +kernel
theorem d_OL_mirror_55 : decode prog_1_method_20_code 55 = .ok (.lload_n 1, 1) := by decide +kernel
theorem d_OL_mirror_56 : decode prog_1_method_20_code 56 = .ok (.invokestatic 209, 3) := by decide +kernel
theorem d_OL_mirror_59 : decode prog_1_method_20_code 59 = .ok (.i2l, 1) := by decide +kernel
theorem d_OL_mirror_60 : decode prog_1_method_20_code 60 = .ok (.lreturn, 1) := by decide +kernel
theorem d_OL_mirror_61 : decode prog_1_method_20_code 61 = .ok (.ldc2_w 203, 3) := by decide +kernel
theorem d_OL_mirror_64 : decode prog_1_method_20_code 64 = .ok (.lreturn, 1) := by decide +kernel
def f_OL_mirror  (p1 : Int64) (p2 : Int32) : Option (Int64) :=
  if (lg_cmp p1 (0 : Int64)) < 0 then
    (some ((-1 : Int64)))
  else
    (if (lg_cmp p1 (4611686018427387904 : Int64)) < 0 then
      (if p2 = 0 then
        (some ((p1 ^^^ (p1 >>> (Int32.toInt64 (1 : Int32) &&& 63)))))
      else
      (if p2 = 1 then
        ((f_OL_nightOf  p1).bind fun r1 =>
        some (r1))
      else
      (if p2 = 2 then
        ((f_OL_lampOf  p1).bind fun r3 =>
        some ((Int32.toInt64 r3)))
      else
      (some ((-1 : Int64))))))
    else
      (some ((-1 : Int64))))
set_option maxRecDepth 20000 in
theorem c_OL_mirror {l : Launch} {D : va_G} {dA : Nat → ClassId} {a_o : Nat}  {p1 : Int64} {p2 : Int32} {r0 : Int64}   (hf : f_OL_mirror  p1 p2 = some r0) : CT l y_OL_mirror prog_1_method_20_code 4 (some .long) { frames := 1, cells := 0, slots := 0, locals := 24 } D dA [.ref a_o, .long p1, .int p2] [] (some (.long r0)) (fun _ : Unit => []) := by
  refine ct_intro "OneLamp" rfl (by decide +kernel) (Nat.le_of_ble_eq_true rfl) [(0, .ref a_o), (1, .long p1), (3, .int p2)] rfl (fun _ C => ?_)
  unfold f_OL_mirror at hf
  refine g_lload_n (pc' := 1) C 1 d_OL_mirror_0 rfl rfl ?_
  refine g_lconst (pc' := 2) (v := 0) C d_OL_mirror_1 rfl rfl ?_
  refine g_lcmp (pc' := 3) C d_OL_mirror_2 rfl ?_
  refine g_if_lt (pc' := 6) (tgt := 14) C d_OL_mirror_3 rfl rfl (fun h => ?_) (fun h => ?_)
  · replace hf := g_ip h hf
    refine g_ldc2 (pc' := 17) (v := (-1)) C d_OL_mirror_14 rfl mw_3_190 ?_
    replace hf := Option.some.inj hf; subst hf
    exact g_lret C d_OL_mirror_17 () rfl
  · replace hf := g_in h hf
    refine g_lload_n (pc' := 7) C 1 d_OL_mirror_6 rfl rfl ?_
    refine g_ldc2 (pc' := 10) (v := 4611686018427387904) C d_OL_mirror_7 rfl mw_3_189 ?_
    refine g_lcmp (pc' := 11) C d_OL_mirror_10 rfl ?_
    refine g_if_lt (pc' := 14) (tgt := 18) C d_OL_mirror_11 rfl rfl (fun h => ?_) (fun h => ?_)
    · replace hf := g_ip h hf
      refine g_iload_n (pc' := 19) C 2 d_OL_mirror_18 rfl rfl ?_
      by_cases q0 : p2 = 0
      · replace hf := g_ip q0 hf
        have e : (p2 : Int32).toInt = 0 := by rw [q0]; rfl
        refine g_tableIn (off := 25) (tgt := 44) C d_OL_mirror_19 (by rw [e]; decide) (by rw [e]; decide) (by rw [e]; rfl) rfl ?_
        refine g_lload_n (pc' := 45) C 1 d_OL_mirror_44 rfl rfl ?_
        refine g_lload_n (pc' := 46) C 1 d_OL_mirror_45 rfl rfl ?_
        refine g_iconst (pc' := 47) (v := 1) C d_OL_mirror_46 rfl rfl ?_
        refine g_lshr (pc' := 48) C d_OL_mirror_47 rfl ?_
        refine g_lxor (pc' := 49) C d_OL_mirror_48 rfl ?_
        replace hf := Option.some.inj hf; subst hf
        exact g_lret C d_OL_mirror_49 () rfl
      replace hf := g_in q0 hf
      by_cases q1 : p2 = 1
      · replace hf := g_ip q1 hf
        have e : (p2 : Int32).toInt = 1 := by rw [q1]; rfl
        refine g_tableIn (off := 31) (tgt := 50) C d_OL_mirror_19 (by rw [e]; decide) (by rw [e]; decide) (by rw [e]; rfl) rfl ?_
        refine g_lload_n (pc' := 51) C 1 d_OL_mirror_50 rfl rfl ?_
        replace hf := g_bi hf; obtain ⟨r1, hc2, hf⟩ := hf
        refine g_callS (pc' := 54) (st1 := [.long r1]) (ws1 := []) C (c_OL_nightOf (l := l) (D := D) (dA := dA)    hc2) yy_OL_nightOf mw_3_191 d_OL_mirror_51 rfl [] rfl rfl (Nat.le_of_ble_eq_true rfl) ⟨Nat.le_of_ble_eq_true rfl, Nat.le_of_ble_eq_true rfl⟩ rfl rfl (Nat.zero_le _) (Nat.zero_le _) [] rfl (by decide +kernel) rfl (g_lay_sel _ _ _ _ [] (by decide +kernel) rfl (by decide +kernel) rfl rfl) rfl ?_
        replace hf := Option.some.inj hf; subst hf
        exact g_lret C d_OL_mirror_54 () rfl
      replace hf := g_in q1 hf
      by_cases q2 : p2 = 2
      · replace hf := g_ip q2 hf
        have e : (p2 : Int32).toInt = 2 := by rw [q2]; rfl
        refine g_tableIn (off := 36) (tgt := 55) C d_OL_mirror_19 (by rw [e]; decide) (by rw [e]; decide) (by rw [e]; rfl) rfl ?_
        refine g_lload_n (pc' := 56) C 1 d_OL_mirror_55 rfl rfl ?_
        replace hf := g_bi hf; obtain ⟨r3, hc4, hf⟩ := hf
        refine g_callS (pc' := 59) (st1 := [.int r3]) (ws1 := []) C (c_OL_lampOf (l := l) (D := D) (dA := dA)    hc4) yy_OL_lampOf mw_3_194 d_OL_mirror_56 rfl [] rfl rfl (Nat.le_of_ble_eq_true rfl) ⟨Nat.le_of_ble_eq_true rfl, Nat.le_of_ble_eq_true rfl⟩ rfl rfl (Nat.zero_le _) (Nat.zero_le _) [] rfl (by decide +kernel) rfl (g_lay_sel _ _ _ _ [] (by decide +kernel) rfl (by decide +kernel) rfl rfl) rfl ?_
        refine g_i2l (pc' := 60) C d_OL_mirror_59 rfl ?_
        replace hf := Option.some.inj hf; subst hf
        exact g_lret C d_OL_mirror_60 () rfl
      replace hf := g_in q2 hf
      refine g_tableOut (tgt := 61) C d_OL_mirror_19 (by have e0 := lv_neT q0 (show (0 : Int32).toInt = 0 from rfl); have e1 := lv_neT q1 (show (1 : Int32).toInt = 1 from rfl); have e2 := lv_neT q2 (show (2 : Int32).toInt = 2 from rfl); omega) rfl ?_
      refine g_ldc2 (pc' := 64) (v := (-1)) C d_OL_mirror_61 rfl mw_3_190 ?_
      replace hf := Option.some.inj hf; subst hf
      exact g_lret C d_OL_mirror_64 () rfl
    · replace hf := g_in h hf
      refine g_ldc2 (pc' := 17) (v := (-1)) C d_OL_mirror_14 rfl mw_3_190 ?_
      replace hf := Option.some.inj hf; subst hf
      exact g_lret C d_OL_mirror_17 () rfl
def y_OL_several : MethodName := ⟨"OneLamp", "several", "(IJ)I"⟩
theorem yy_OL_several : YV y_OL_several prog_1_method_21_code 9 (some .int) 2 := ⟨mw_3_200, mw_1_1, mw_3_198, mw_3_199, by decide +kernel, by decide +kernel, by decide +kernel⟩
theorem d_OL_several_0 : decode prog_1_method_21_code 0 = .ok (.iload_n 1, 1) := by decide +kernel
theorem d_OL_several_1 : decode prog_1_method_21_code 1 = .ok (.bipush 100, 2) := by decide +kernel
theorem d_OL_several_3 : decode prog_1_method_21_code 3 = .ok (.idiv, 1) := by decide +kernel
theorem d_OL_several_4 : decode prog_1_method_21_code 4 = .ok (.istore 4, 2) := by decide +kernel
theorem d_OL_several_6 : decode prog_1_method_21_code 6 = .ok (.iload_n 1, 1) := by decide +kernel
theorem d_OL_several_7 : decode prog_1_method_21_code 7 = .ok (.bipush 100, 2) := by decide +kernel
theorem d_OL_several_9 : decode prog_1_method_21_code 9 = .ok (.irem, 1) := by decide +kernel
theorem d_OL_several_10 : decode prog_1_method_21_code 10 = .ok (.istore 5, 2) := by decide +kernel
theorem d_OL_several_12 : decode prog_1_method_21_code 12 = .ok (.iload 4, 2) := by decide +kernel
theorem d_OL_several_14 : decode prog_1_method_21_code 14 = .ok (.iconst 2, 1) := by decide +kernel
theorem d_OL_several_15 : decode prog_1_method_21_code 15 = .ok (.if_icmp .lt 36, 3) := by decide +kernel
theorem d_OL_several_18 : decode prog_1_method_21_code 18 = .ok (.iload 4, 2) := by decide +kernel
theorem d_OL_several_20 : decode prog_1_method_21_code 20 = .ok (.bipush 9, 2) := by decide +kernel
theorem d_OL_several_22 : decode prog_1_method_21_code 22 = .ok (.if_icmp .gt 29, 3) := by decide +kernel
theorem d_OL_several_25 : decode prog_1_method_21_code 25 = .ok (.iload 5, 2) := by decide +kernel
theorem d_OL_several_27 : decode prog_1_method_21_code 27 = .ok (.ifCond .lt 24, 3) := by decide +kernel
theorem d_OL_several_30 : decode prog_1_method_21_code 30 = .ok (.iload 5, 2) := by decide +kernel
theorem d_OL_several_32 : decode prog_1_method_21_code 32 = .ok (.bipush 30, 2) := by decide +kernel
theorem d_OL_several_34 : decode prog_1_method_21_code 34 = .ok (.if_icmp .gt 17, 3) := by decide +kernel
theorem d_OL_several_37 : decode prog_1_method_21_code 37 = .ok (.lload_n 2, 1) := by decide +kernel
theorem d_OL_several_38 : decode prog_1_method_21_code 38 = .ok (.lconst 0, 1) := by decide +kernel
theorem d_OL_several_39 : decode prog_1_method_21_code 39 = .ok (.lcmp, 1) := by decide +kernel
theorem d_OL_several_40 : decode prog_1_method_21_code 40 = .ok (.ifCond .lt 11, 3) := by decide +kernel
theorem d_OL_several_43 : decode prog_1_method_21_code 43 = .ok (.lload_n 2, 1) := by decide +kernel
theorem d_OL_several_44 : decode prog_1_method_21_code 44 = .ok (.ldc2_w 201, 3) := by decide +kernel
theorem d_OL_several_47 : decode prog_1_method_21_code 47 = .ok (.lcmp, 1) := by decide +kernel
theorem d_OL_several_48 : decode prog_1_method_21_code 48 = .ok (.ifCond .lt 5, 3) := by decide +kernel
theorem d_OL_several_51 : decode prog_1_method_21_code 51 = .ok (.iconst (-1), 1) := by decide +kernel
theorem d_OL_several_52 : decode prog_1_method_21_code 52 = .ok (.ireturn, 1) := by decide +kernel
theorem d_OL_several_53 : decode prog_1_method_21_code 53 = .ok (.lload_n 2, 1) := by decide +kernel
theorem d_OL_several_54 : decode prog_1_method_21_code 54 = .ok (.lstore 6, 2) := by decide +kernel
theorem d_OL_several_56 : decode prog_1_method_21_code 56 = .ok (.iconst 0, 1) := by decide +kernel
theorem d_OL_several_57 : decode prog_1_method_21_code 57 = .ok (.istore 8, 2) := by decide +kernel
theorem d_OL_several_59 : decode prog_1_method_21_code 59 = .ok (.iload 8, 2) := by decide +kernel
theorem d_OL_several_61 : decode prog_1_method_21_code 61 = .ok (.iload 5, 2) := by decide +kernel
theorem d_OL_several_63 : decode prog_1_method_21_code 63 = .ok (.if_icmp .ge 17, 3) := by decide +kernel
theorem d_OL_several_66 : decode prog_1_method_21_code 66 = .ok (.lload 6, 2) := by decide +kernel
theorem d_OL_several_68 : decode prog_1_method_21_code 68 = .ok (.iload 4, 2) := by decide +kernel
theorem d_OL_several_70 : decode prog_1_method_21_code 70 = .ok (.i2l, 1) := by decide +kernel
theorem d_OL_several_71 : decode prog_1_method_21_code 71 = .ok (.ldiv, 1) := by decide +kernel
theorem d_OL_several_72 : decode prog_1_method_21_code 72 = .ok (.lstore 6, 2) := by decide +kernel
theorem d_OL_several_74 : decode prog_1_method_21_code 74 = .ok (.iinc 8 1, 3) := by decide +kernel
theorem d_OL_several_77 : decode prog_1_method_21_code 77 = .ok (.goto (-18), 3) := by decide +kernel
theorem d_OL_several_80 : decode prog_1_method_21_code 80 = .ok (.lload 6, 2) := by decide +kernel
theorem d_OL_several_82 : decode prog_1_method_21_code 82 = .ok (.iconst 2, 1) := by decide +kernel
theorem d_OL_several_83 : decode prog_1_method_21_code 83 = .ok (.iload 4, 2) := by decide +kernel
theorem d_OL_several_85 : decode prog_1_method_21_code 85 = .ok (.imul, 1) := by decide +kernel
theorem d_OL_several_86 : decode prog_1_method_21_code 86 = .ok (.i2l, 1) := by decide +kernel
theorem d_OL_several_87 : decode prog_1_method_21_code 87 = .ok (.lrem, 1) := by decide +kernel
theorem d_OL_several_88 : decode prog_1_method_21_code 88 = .ok (.l2i, 1) := by decide +kernel
theorem d_OL_several_89 : decode prog_1_method_21_code 89 = .ok (.istore 8, 2) := by decide +kernel
theorem d_OL_several_91 : decode prog_1_method_21_code 91 = .ok (.iload 8, 2) := by decide +kernel
theorem d_OL_several_93 : decode prog_1_method_21_code 93 = .ok (.iload 4, 2) := by decide +kernel
theorem d_OL_several_95 : decode prog_1_method_21_code 95 = .ok (.if_icmp .ge 8, 3) := by decide +kernel
theorem d_OL_several_98 : decode prog_1_method_21_code 98 = .ok (.iload 8, 2) := by decide +kernel
theorem d_OL_several_100 : decode prog_1_method_21_code 100 = .ok (.goto 12, 3) := by decide +kernel
theorem d_OL_several_103 : decode prog_1_method_21_code 103 = .ok (.iconst 2, 1) := by decide +kernel
theorem d_OL_several_104 : decode prog_1_method_21_code 104 = .ok (.iload 4, 2) := by decide +kernel
theorem d_OL_several_106 : decode prog_1_method_21_code 106 = .ok (.imul, 1) := by decide +kernel
theorem d_OL_several_107 : decode prog_1_method_21_code 107 = .ok (.iconst 1, 1) := by decide +kernel
theorem d_OL_several_108 : decode prog_1_method_21_code 108 = .ok (.isub, 1) := by decide +kernel
theorem d_OL_several_109 : decode prog_1_method_21_code 109 = .ok (.iload 8, 2) := by decide +kernel
theorem d_OL_several_111 : decode prog_1_method_21_code 111 = .ok (.isub, 1) := by decide +kernel
theorem d_OL_several_112 : decode prog_1_method_21_code 112 = .ok (.ireturn, 1) := by decide +kernel
def f_OL_several_L59   : Nat → Int32 → Int32 → Int64 → Int32 → Option (Int32)
  | 0, _, _, _, _ => none
  | n + 1, v4, v5, v6, v8 =>
    if v5 ≤ v8 then
      (if (Int32.toInt64 ((2 : Int32) * v4)) = 0 then none else
      if v4 ≤ (Int64.toInt32 (v6 - v6 / (Int32.toInt64 ((2 : Int32) * v4)) * (Int32.toInt64 ((2 : Int32) * v4)))) then
        (some (((((2 : Int32) * v4) - (1 : Int32)) - (Int64.toInt32 (v6 - v6 / (Int32.toInt64 ((2 : Int32) * v4)) * (Int32.toInt64 ((2 : Int32) * v4)))))))
      else
        (some ((Int64.toInt32 (v6 - v6 / (Int32.toInt64 ((2 : Int32) * v4)) * (Int32.toInt64 ((2 : Int32) * v4)))))))
    else
      (if (Int32.toInt64 v4) = 0 then none else
      f_OL_several_L59  n v4 v5 (v6 / (Int32.toInt64 v4)) (v8 + 1))
set_option maxRecDepth 20000 in
theorem w_OL_several_L59 {p : Program} {l : Launch} {e : Env} {s : State} {m : MethodId} {args : Array Value} {below : List Frame} {meth : Method} {c : Code} {D : va_G} {dA : Nat → ClassId} {A : Nat → Prop} (C : GC p s m args meth c prog_1_method_21_code 9 "OneLamp" (some .int) D dA A) {a_o : Nat}  {r0 : Int32}    : ∀ (n : Nat) (v4 : Int32) (v5 : Int32) (v6 : Int64) (v8 : Int32), f_OL_several_L59   n v4 v5 v6 v8 = some r0 → GG p l e { frames := 0, cells := 0, slots := 0, locals := 0 } s m args below meth c 9 D A 0 0 (MQ below (cQ D A (some (.int r0)) (fun _ : Unit => [])) args s 0 0 A) 59 [(4, .int v4), (5, .int v5), (6, .long v6), (8, .int v8)] [] [] := by
  intro n
  induction n with
  | zero =>
    intro v4 v5 v6 v8 hf
    cases hf
  | succ n ih =>
    intro v4 v5 v6 v8 hf
    unfold f_OL_several_L59 at hf
    refine g_iload (pc' := 61) C 3 d_OL_several_59 rfl rfl ?_
    refine g_iload (pc' := 63) C 1 d_OL_several_61 rfl rfl ?_
    refine g_icmp_ge (pc' := 66) (tgt := 80) C d_OL_several_63 rfl rfl (fun h => ?_) (fun h => ?_)
    · replace hf := g_ip h hf
      refine g_lload (pc' := 82) C 2 d_OL_several_80 rfl rfl ?_
      refine g_iconst (pc' := 83) (v := 2) C d_OL_several_82 rfl rfl ?_
      refine g_iload (pc' := 85) C 0 d_OL_several_83 rfl rfl ?_
      refine g_imul (pc' := 86) C d_OL_several_85 rfl ?_
      refine g_i2l (pc' := 87) C d_OL_several_86 rfl ?_
      have hb := g_ck hf
      replace hf := g_in hb hf
      refine g_lrem (pc' := 88) C d_OL_several_87 rfl hb ?_
      refine g_l2i (pc' := 89) C d_OL_several_88 rfl ?_
      refine g_istore (pc' := 91) (lv' := [(8, .int (Int64.toInt32 (v6 - v6 / (Int32.toInt64 ((2 : Int32) * v4)) * (Int32.toInt64 ((2 : Int32) * v4))))), (4, .int v4), (5, .int v5), (6, .long v6)]) C d_OL_several_89 rfl (by decide) rfl ?_
      refine g_iload (pc' := 93) C 0 d_OL_several_91 rfl rfl ?_
      refine g_iload (pc' := 95) C 1 d_OL_several_93 rfl rfl ?_
      refine g_icmp_ge (pc' := 98) (tgt := 103) C d_OL_several_95 rfl rfl (fun h => ?_) (fun h => ?_)
      · replace hf := g_ip h hf
        refine g_iconst (pc' := 104) (v := 2) C d_OL_several_103 rfl rfl ?_
        refine g_iload (pc' := 106) C 1 d_OL_several_104 rfl rfl ?_
        refine g_imul (pc' := 107) C d_OL_several_106 rfl ?_
        refine g_iconst (pc' := 108) (v := 1) C d_OL_several_107 rfl rfl ?_
        refine g_isub (pc' := 109) C d_OL_several_108 rfl ?_
        refine g_iload (pc' := 111) C 0 d_OL_several_109 rfl rfl ?_
        refine g_isub (pc' := 112) C d_OL_several_111 rfl ?_
        replace hf := Option.some.inj hf; subst hf
        exact g_iret C d_OL_several_112 () rfl
      · replace hf := g_in h hf
        refine g_iload (pc' := 100) C 0 d_OL_several_98 rfl rfl ?_
        refine g_goto (tgt := 112) C d_OL_several_100 rfl ?_
        replace hf := Option.some.inj hf; subst hf
        exact g_iret C d_OL_several_112 () rfl
    · replace hf := g_in h hf
      refine g_lload (pc' := 68) C 2 d_OL_several_66 rfl rfl ?_
      refine g_iload (pc' := 70) C 0 d_OL_several_68 rfl rfl ?_
      refine g_i2l (pc' := 71) C d_OL_several_70 rfl ?_
      have hb := g_ck hf
      replace hf := g_in hb hf
      refine g_ldiv (pc' := 72) C d_OL_several_71 rfl hb ?_
      refine g_lstore (pc' := 74) (lv' := [(6, .long (v6 / (Int32.toInt64 v4))), (4, .int v4), (5, .int v5), (8, .int v8)]) C d_OL_several_72 rfl (by decide) rfl ?_
      refine g_iinc (pc' := 77) (j := 3) (v := (v8 + 1)) (lv' := [(8, .int (v8 + 1)), (6, .long (v6 / (Int32.toInt64 v4))), (4, .int v4), (5, .int v5)]) C d_OL_several_74 rfl rfl rfl (by decide) rfl ?_
      refine g_goto (tgt := 59) C d_OL_several_77 rfl ?_
      refine g_lv (lv' := [(4, .int v4), (5, .int v5), (6, .long (v6 / (Int32.toInt64 v4))), (8, .int (v8 + 1))]) [2, 3, 1, 0] rfl ?_
      exact ih v4 v5 (v6 / (Int32.toInt64 v4)) (v8 + 1) hf
def f_OL_several  (p1 : Int32) (p2 : Int64) : Option (Int32) :=
  if (p1 / (100 : Int32)) < (2 : Int32) then
    (some ((-1 : Int32)))
  else
    (if (9 : Int32) < (p1 / (100 : Int32)) then
      (some ((-1 : Int32)))
    else
      (if (p1 - p1 / (100 : Int32) * (100 : Int32)) < 0 then
        (some ((-1 : Int32)))
      else
        (if (30 : Int32) < (p1 - p1 / (100 : Int32) * (100 : Int32)) then
          (some ((-1 : Int32)))
        else
          (if (lg_cmp p2 (0 : Int64)) < 0 then
            (some ((-1 : Int32)))
          else
            (if (lg_cmp p2 (4611686018427387904 : Int64)) < 0 then
              (f_OL_several_L59  3000 (p1 / (100 : Int32)) (p1 - p1 / (100 : Int32) * (100 : Int32)) p2 (0 : Int32))
            else
              (some ((-1 : Int32))))))))
set_option maxRecDepth 20000 in
theorem c_OL_several {l : Launch} {D : va_G} {dA : Nat → ClassId} {a_o : Nat}  {p1 : Int32} {p2 : Int64} {r0 : Int32}   (hf : f_OL_several  p1 p2 = some r0) : CT l y_OL_several prog_1_method_21_code 9 (some .int) { frames := 0, cells := 0, slots := 0, locals := 0 } D dA [.ref a_o, .int p1, .long p2] [] (some (.int r0)) (fun _ : Unit => []) := by
  refine ct_intro "OneLamp" rfl (by decide +kernel) (Nat.le_of_ble_eq_true rfl) [(0, .ref a_o), (1, .int p1), (2, .long p2)] rfl (fun _ C => ?_)
  unfold f_OL_several at hf
  refine g_iload_n (pc' := 1) C 1 d_OL_several_0 rfl rfl ?_
  refine g_bipush (pc' := 3) (v := 100) C d_OL_several_1 rfl rfl ?_
  refine g_idiv (pc' := 4) C d_OL_several_3 rfl (by decide) ?_
  refine g_istore (pc' := 6) (lv' := [(4, .int (p1 / (100 : Int32))), (0, .ref a_o), (1, .int p1), (2, .long p2)]) C d_OL_several_4 rfl (by decide) rfl ?_
  refine g_iload_n (pc' := 7) C 2 d_OL_several_6 rfl rfl ?_
  refine g_bipush (pc' := 9) (v := 100) C d_OL_several_7 rfl rfl ?_
  refine g_irem (pc' := 10) C d_OL_several_9 rfl (by decide) ?_
  refine g_istore (pc' := 12) (lv' := [(5, .int (p1 - p1 / (100 : Int32) * (100 : Int32))), (4, .int (p1 / (100 : Int32))), (0, .ref a_o), (1, .int p1), (2, .long p2)]) C d_OL_several_10 rfl (by decide) rfl ?_
  refine g_iload (pc' := 14) C 1 d_OL_several_12 rfl rfl ?_
  refine g_iconst (pc' := 15) (v := 2) C d_OL_several_14 rfl rfl ?_
  refine g_icmp_lt (pc' := 18) (tgt := 51) C d_OL_several_15 rfl rfl (fun h => ?_) (fun h => ?_)
  · replace hf := g_ip h hf
    refine g_iconst (pc' := 52) (v := (-1)) C d_OL_several_51 rfl rfl ?_
    replace hf := Option.some.inj hf; subst hf
    exact g_iret C d_OL_several_52 () rfl
  · replace hf := g_in h hf
    refine g_iload (pc' := 20) C 1 d_OL_several_18 rfl rfl ?_
    refine g_bipush (pc' := 22) (v := 9) C d_OL_several_20 rfl rfl ?_
    refine g_icmp_gt (pc' := 25) (tgt := 51) C d_OL_several_22 rfl rfl (fun h => ?_) (fun h => ?_)
    · replace hf := g_ip h hf
      refine g_iconst (pc' := 52) (v := (-1)) C d_OL_several_51 rfl rfl ?_
      replace hf := Option.some.inj hf; subst hf
      exact g_iret C d_OL_several_52 () rfl
    · replace hf := g_in h hf
      refine g_iload (pc' := 27) C 0 d_OL_several_25 rfl rfl ?_
      refine g_if_lt (pc' := 30) (tgt := 51) C d_OL_several_27 rfl rfl (fun h => ?_) (fun h => ?_)
      · replace hf := g_ip h hf
        refine g_iconst (pc' := 52) (v := (-1)) C d_OL_several_51 rfl rfl ?_
        replace hf := Option.some.inj hf; subst hf
        exact g_iret C d_OL_several_52 () rfl
      · replace hf := g_in h hf
        refine g_iload (pc' := 32) C 0 d_OL_several_30 rfl rfl ?_
        refine g_bipush (pc' := 34) (v := 30) C d_OL_several_32 rfl rfl ?_
        refine g_icmp_gt (pc' := 37) (tgt := 51) C d_OL_several_34 rfl rfl (fun h => ?_) (fun h => ?_)
        · replace hf := g_ip h hf
          refine g_iconst (pc' := 52) (v := (-1)) C d_OL_several_51 rfl rfl ?_
          replace hf := Option.some.inj hf; subst hf
          exact g_iret C d_OL_several_52 () rfl
        · replace hf := g_in h hf
          refine g_lload_n (pc' := 38) C 4 d_OL_several_37 rfl rfl ?_
          refine g_lconst (pc' := 39) (v := 0) C d_OL_several_38 rfl rfl ?_
          refine g_lcmp (pc' := 40) C d_OL_several_39 rfl ?_
          refine g_if_lt (pc' := 43) (tgt := 51) C d_OL_several_40 rfl rfl (fun h => ?_) (fun h => ?_)
          · replace hf := g_ip h hf
            refine g_iconst (pc' := 52) (v := (-1)) C d_OL_several_51 rfl rfl ?_
            replace hf := Option.some.inj hf; subst hf
            exact g_iret C d_OL_several_52 () rfl
          · replace hf := g_in h hf
            refine g_lload_n (pc' := 44) C 4 d_OL_several_43 rfl rfl ?_
            refine g_ldc2 (pc' := 47) (v := 4611686018427387904) C d_OL_several_44 rfl mw_3_189 ?_
            refine g_lcmp (pc' := 48) C d_OL_several_47 rfl ?_
            refine g_if_lt (pc' := 51) (tgt := 53) C d_OL_several_48 rfl rfl (fun h => ?_) (fun h => ?_)
            · replace hf := g_ip h hf
              refine g_lload_n (pc' := 54) C 4 d_OL_several_53 rfl rfl ?_
              refine g_lstore (pc' := 56) (lv' := [(6, .long p2), (5, .int (p1 - p1 / (100 : Int32) * (100 : Int32))), (4, .int (p1 / (100 : Int32))), (0, .ref a_o), (1, .int p1), (2, .long p2)]) C d_OL_several_54 rfl (by decide) rfl ?_
              refine g_iconst (pc' := 57) (v := 0) C d_OL_several_56 rfl rfl ?_
              refine g_istore (pc' := 59) (lv' := [(8, .int 0), (6, .long p2), (5, .int (p1 - p1 / (100 : Int32) * (100 : Int32))), (4, .int (p1 / (100 : Int32))), (0, .ref a_o), (1, .int p1), (2, .long p2)]) C d_OL_several_57 rfl (by decide) rfl ?_
              refine g_lv (lv' := [(4, .int (p1 / (100 : Int32))), (5, .int (p1 - p1 / (100 : Int32) * (100 : Int32))), (6, .long p2), (8, .int (0 : Int32))]) [3, 2, 1, 0] rfl ?_
              exact w_OL_several_L59 (a_o := a_o) C   3000 (p1 / (100 : Int32)) (p1 - p1 / (100 : Int32) * (100 : Int32)) p2 (0 : Int32) hf
            · replace hf := g_in h hf
              refine g_iconst (pc' := 52) (v := (-1)) C d_OL_several_51 rfl rfl ?_
              replace hf := Option.some.inj hf; subst hf
              exact g_iret C d_OL_several_52 () rfl
def y_OL_through : MethodName := ⟨"OneLamp", "through", "(III)I"⟩
theorem yy_OL_through : YV y_OL_through prog_1_method_22_code 5 (some .int) 3 := ⟨mw_3_204, mw_1_1, mw_3_202, mw_3_203, by decide +kernel, by decide +kernel, by decide +kernel⟩
theorem d_OL_through_0 : decode prog_1_method_22_code 0 = .ok (.aload_n 0, 1) := by decide +kernel
theorem d_OL_through_1 : decode prog_1_method_22_code 1 = .ok (.getfield 10, 3) := by decide +kernel
theorem d_OL_through_4 : decode prog_1_method_22_code 4 = .ok (.iload_n 1, 1) := by decide +kernel
theorem d_OL_through_5 : decode prog_1_method_22_code 5 = .ok (.invokevirtual 78, 3) := by decide +kernel
theorem d_OL_through_8 : decode prog_1_method_22_code 8 = .ok (.ifCond .eq 34, 3) := by decide +kernel
theorem d_OL_through_11 : decode prog_1_method_22_code 11 = .ok (.aload_n 0, 1) := by decide +kernel
theorem d_OL_through_12 : decode prog_1_method_22_code 12 = .ok (.getfield 10, 3) := by decide +kernel
theorem d_OL_through_15 : decode prog_1_method_22_code 15 = .ok (.iload_n 2, 1) := by decide +kernel
theorem d_OL_through_16 : decode prog_1_method_22_code 16 = .ok (.invokevirtual 78, 3) := by decide +kernel
theorem d_OL_through_19 : decode prog_1_method_22_code 19 = .ok (.ifCond .eq 23, 3) := by decide +kernel
theorem d_OL_through_22 : decode prog_1_method_22_code 22 = .ok (.iload_n 3, 1) := by decide +kernel
theorem d_OL_through_23 : decode prog_1_method_22_code 23 = .ok (.iconst (-1), 1) := by decide +kernel
theorem d_OL_through_24 : decode prog_1_method_22_code 24 = .ok (.if_icmp .lt 18, 3) := by decide +kernel
theorem d_OL_through_27 : decode prog_1_method_22_code 27 = .ok (.iload_n 3, 1) := by decide +kernel
theorem d_OL_through_28 : decode prog_1_method_22_code 28 = .ok (.iconst 1, 1) := by decide +kernel
theorem d_OL_through_29 : decode prog_1_method_22_code 29 = .ok (.aload_n 0, 1) := by decide +kernel
theorem d_OL_through_30 : decode prog_1_method_22_code 30 = .ok (.getfield 10, 3) := by decide +kernel
theorem d_OL_through_33 : decode prog_1_method_22_code 33 = .ok (.getfield 61, 3) := by decide +kernel
theorem d_OL_through_36 : decode prog_1_method_22_code 36 = .ok (.ishl, 1) := by decide +kernel
theorem d_OL_through_37 : decode prog_1_method_22_code 37 = .ok (.iconst 2, 1) := by decide +kernel
theorem d_OL_through_38 : decode prog_1_method_22_code 38 = .ok (.isub, 1) := by decide +kernel
theorem d_OL_through_39 : decode prog_1_method_22_code 39 = .ok (.if_icmp .le 5, 3) := by decide +kernel
theorem d_OL_through_42 : decode prog_1_method_22_code 42 = .ok (.iconst (-1), 1) := by decide +kernel
theorem d_OL_through_43 : decode prog_1_method_22_code 43 = .ok (.ireturn, 1) := by decide +kernel
theorem d_OL_through_44 : decode prog_1_method_22_code 44 = .ok (.iload_n 1, 1) := by decide +kernel
theorem d_OL_through_45 : decode prog_1_method_22_code 45 = .ok (.iload_n 2, 1) := by decide +kernel
theorem d_OL_through_46 : decode prog_1_method_22_code 46 = .ok (.ixor, 1) := by decide +kernel
theorem d_OL_through_47 : decode prog_1_method_22_code 47 = .ok (.invokestatic 213, 3) := by decide +kernel
theorem d_OL_through_50 : decode prog_1_method_22_code 50 = .ok (.iconst 2, 1) := by decide +kernel
theorem d_OL_through_51 : decode prog_1_method_22_code 51 = .ok (.irem, 1) := by decide +kernel
theorem d_OL_through_52 : decode prog_1_method_22_code 52 = .ok (.iconst 1, 1) := by decide +kernel
theorem d_OL_through_53 : decode prog_1_method_22_code 53 = .ok (.if_icmp .ne 7, 3) := by decide +kernel
theorem d_OL_through_56 : decode prog_1_method_22_code 56 = .ok (.iconst 1, 1) := by decide +kernel
theorem d_OL_through_57 : decode prog_1_method_22_code 57 = .ok (.goto 4, 3) := by decide +kernel
theorem d_OL_through_60 : decode prog_1_method_22_code 60 = .ok (.iconst 0, 1) := by decide +kernel
theorem d_OL_through_61 : decode prog_1_method_22_code 61 = .ok (.istore 4, 2) := by decide +kernel
theorem d_OL_through_63 : decode prog_1_method_22_code 63 = .ok (.iload_n 3, 1) := by decide +kernel
theorem d_OL_through_64 : decode prog_1_method_22_code 64 = .ok (.iconst (-1), 1) := by decide +kernel
theorem d_OL_through_65 : decode prog_1_method_22_code 65 = .ok (.if_icmp .ne 14, 3) := by decide +kernel
theorem d_OL_through_68 : decode prog_1_method_22_code 68 = .ok (.iload 4, 2) := by decide +kernel
theorem d_OL_through_70 : decode prog_1_method_22_code 70 = .ok (.ifCond .eq 7, 3) := by decide +kernel
theorem d_OL_through_73 : decode prog_1_method_22_code 73 = .ok (.iconst 1, 1) := by decide +kernel
theorem d_OL_through_74 : decode prog_1_method_22_code 74 = .ok (.goto 4, 3) := by decide +kernel
theorem d_OL_through_77 : decode prog_1_method_22_code 77 = .ok (.iconst 0, 1) := by decide +kernel
theorem d_OL_through_78 : decode prog_1_method_22_code 78 = .ok (.ireturn, 1) := by decide +kernel
theorem d_OL_through_79 : decode prog_1_method_22_code 79 = .ok (.aload_n 0, 1) := by decide +kernel
theorem d_OL_through_80 : decode prog_1_method_22_code 80 = .ok (.getfield 10, 3) := by decide +kernel
theorem d_OL_through_83 : decode prog_1_method_22_code 83 = .ok (.getfield 61, 3) := by decide +kernel
theorem d_OL_through_86 : decode prog_1_method_22_code 86 = .ok (.iconst 4, 1) := by decide +kernel
theorem d_OL_through_87 : decode prog_1_method_22_code 87 = .ok (.if_icmp .le 6, 3) := by decide +kernel
theorem d_OL_through_90 : decode prog_1_method_22_code 90 = .ok (.bipush (-5), 2) := by decide +kernel
theorem d_OL_through_92 : decode prog_1_method_22_code 92 = .ok (.ireturn, 1) := by decide +kernel
theorem d_OL_through_93 : decode prog_1_method_22_code 93 = .ok (.iload 4, 2) := by decide +kernel
theorem d_OL_through_95 : decode prog_1_method_22_code 95 = .ok (.ifCond .ne 6, 3) := by decide +kernel
theorem d_OL_through_98 : decode prog_1_method_22_code 98 = .ok (.bipush (-2), 2) := by decide +kernel
theorem d_OL_through_100 : decode prog_1_method_22_code 100 = .ok (.ireturn, 1) := by decide +kernel
theorem d_OL_through_101 : decode prog_1_method_22_code 101 = .ok (.aload_n 0, 1) := by decide +kernel
theorem d_OL_through_102 : decode prog_1_method_22_code 102 = .ok (.getfield 43, 3) := by decide +kernel
theorem d_OL_through_105 : decode prog_1_method_22_code 105 = .ok (.aload_n 0, 1) := by decide +kernel
theorem d_OL_through_106 : decode prog_1_method_22_code 106 = .ok (.getfield 10, 3) := by decide +kernel
theorem d_OL_through_109 : decode prog_1_method_22_code 109 = .ok (.getfield 61, 3) := by decide +kernel
theorem d_OL_through_112 : decode prog_1_method_22_code 112 = .ok (.iload_n 1, 1) := by decide +kernel
theorem d_OL_through_113 : decode prog_1_method_22_code 113 = .ok (.iload_n 2, 1) := by decide +kernel
theorem d_OL_through_114 : decode prog_1_method_22_code 114 = .ok (.iload_n 3, 1) := by decide +kernel
theorem d_OL_through_115 : decode prog_1_method_22_code 115 = .ok (.invokevirtual 218, 3) := by decide +kernel
theorem d_OL_through_118 : decode prog_1_method_22_code 118 = .ok (.ireturn, 1) := by decide +kernel
def f_OL_through_L61   (v1 : Int32) (v2 : Int32) (v3 : Int32) (s0 : Bool) (x_o_wall_lamps : Int32) (x_o_thought_wall_lamps : Int32) (x_o_thought_way : Nat → Int32) : Option (Int32 × Int32 × (Nat → Int32)) :=
  if v3 = (-1 : Int32) then
    (if s0 = true then
      (some ((1 : Int32), x_o_thought_wall_lamps, x_o_thought_way))
    else
      (some ((0 : Int32), x_o_thought_wall_lamps, x_o_thought_way)))
  else
    (if x_o_wall_lamps ≤ (4 : Int32) then
      (if s0 = true then
        ((f_Th_lampThrough  x_o_wall_lamps v1 v2 v3 x_o_thought_wall_lamps x_o_thought_way).bind fun (r1, u2, u3) =>
        some (r1, u2, u3))
      else
        (some ((-2 : Int32), x_o_thought_wall_lamps, x_o_thought_way)))
    else
      (some ((-5 : Int32), x_o_thought_wall_lamps, x_o_thought_way)))
set_option maxRecDepth 20000 in
theorem w_OL_through_L61 {p : Program} {l : Launch} {e : Env} {s : State} {m : MethodId} {args : Array Value} {below : List Frame} {meth : Method} {c : Code} {D : va_G} {dA : Nat → ClassId} {A : Nat → Prop} (C : GC p s m args meth c prog_1_method_22_code 5 "OneLamp" (some .int) D dA A) {a_o a_o_wall a_o_imageOfWall a_o_rules a_o_tape a_o_costs a_o_thought a_o_acts a_o_shelves a_o_wall_had a_o_wall_told a_o_wall_last a_o_wall_often a_o_thought_wall a_o_thought_way a_o_thought_best a_o_thought_wall_had a_o_thought_wall_told a_o_thought_wall_last a_o_thought_wall_often : Nat} {x_o_imageIsKept : Bool} {x_o_wall_picture : Int32} {x_o_wall_night : Int32} {x_o_wall_spent : Int32} {x_o_thought_bestLength : Int32} {x_o_thought_open : Int32} {x_o_thought_found : Int32} {x_o_thought_wall_picture : Int32} {x_o_thought_wall_night : Int32} {x_o_thought_wall_spent : Int32} {r0 : Int32} {o_x_o_thought_wall_lamps : Int32} {o_x_o_thought_way : Nat → Int32}    (v1 : Int32) (v2 : Int32) (v3 : Int32) (s0 : Bool) (x_o_wall_lamps : Int32) (x_o_thought_wall_lamps : Int32) (x_o_thought_way : Nat → Int32) (hf : f_OL_through_L61   v1 v2 v3 s0 x_o_wall_lamps x_o_thought_wall_lamps x_o_thought_way = some (r0, o_x_o_thought_wall_lamps, o_x_o_thought_way)) : GG p l e { frames := 22, cells := 0, slots := 0, locals := 591 } s m args below meth c 5 D A 0 0 (MQ below (cQ D A (some (.int r0)) (fun _ : Unit => [O_OL a_o a_o_wall a_o_imageOfWall x_o_imageIsKept a_o_rules a_o_tape a_o_costs a_o_thought a_o_acts a_o_shelves, O_Wa a_o_wall x_o_wall_lamps x_o_wall_picture x_o_wall_night x_o_wall_spent a_o_wall_had a_o_wall_told a_o_wall_last a_o_wall_often, O_Th a_o_thought a_o_thought_wall a_o_thought_way a_o_thought_best x_o_thought_bestLength x_o_thought_open x_o_thought_found, O_Wa a_o_thought_wall o_x_o_thought_wall_lamps x_o_thought_wall_picture x_o_thought_wall_night x_o_thought_wall_spent a_o_thought_wall_had a_o_thought_wall_told a_o_thought_wall_last a_o_thought_wall_often, A_I dA a_o_thought_way 15 o_x_o_thought_way])) args s 0 0 A) 61 [(0, .ref a_o), (1, .int v1), (2, .int v2), (3, .int v3)] [.int (b2i s0)] [O_OL a_o a_o_wall a_o_imageOfWall x_o_imageIsKept a_o_rules a_o_tape a_o_costs a_o_thought a_o_acts a_o_shelves, O_Wa a_o_wall x_o_wall_lamps x_o_wall_picture x_o_wall_night x_o_wall_spent a_o_wall_had a_o_wall_told a_o_wall_last a_o_wall_often, O_Th a_o_thought a_o_thought_wall a_o_thought_way a_o_thought_best x_o_thought_bestLength x_o_thought_open x_o_thought_found, O_Wa a_o_thought_wall x_o_thought_wall_lamps x_o_thought_wall_picture x_o_thought_wall_night x_o_thought_wall_spent a_o_thought_wall_had a_o_thought_wall_told a_o_thought_wall_last a_o_thought_wall_often, A_I dA a_o_thought_way 15 x_o_thought_way] := by
  unfold f_OL_through_L61 at hf
  refine g_istore (pc' := 63) (lv' := [(4, .int (b2i s0)), (0, .ref a_o), (1, .int v1), (2, .int v2), (3, .int v3)]) C d_OL_through_61 rfl (by decide) rfl ?_
  refine g_iload_n (pc' := 64) C 4 d_OL_through_63 rfl rfl ?_
  refine g_iconst (pc' := 65) (v := (-1)) C d_OL_through_64 rfl rfl ?_
  refine g_icmp_ne (pc' := 68) (tgt := 79) C d_OL_through_65 rfl rfl (fun h => ?_) (fun h => ?_)
  · replace hf := g_in h hf
    refine g_aload_n (pc' := 80) C 1 d_OL_through_79 rfl rfl ?_
    refine g_get (pc' := 83) C kf_OL 0 mw_2_44 d_OL_through_80 rfl 0 rfl (by decide) rfl ?_
    refine g_get (pc' := 86) C kf_Wa 0 mw_1_64 d_OL_through_83 rfl 1 rfl (by decide) rfl ?_
    refine g_iconst (pc' := 87) (v := 4) C d_OL_through_86 rfl rfl ?_
    refine g_icmp_le (pc' := 90) (tgt := 93) C d_OL_through_87 rfl rfl (fun h => ?_) (fun h => ?_)
    · replace hf := g_ip h hf
      refine g_iload (pc' := 95) C 0 d_OL_through_93 rfl rfl ?_
      refine g_if_neb (pc' := 98) (tgt := 101) C d_OL_through_95 rfl rfl (fun h => ?_) (fun h => ?_)
      · replace hf := g_bt h hf
        refine g_aload_n (pc' := 102) C 1 d_OL_through_101 rfl rfl ?_
        refine g_get (pc' := 105) C kf_OL 6 mw_2_50 d_OL_through_102 rfl 0 rfl (by decide) rfl ?_
        refine g_aload_n (pc' := 106) C 1 d_OL_through_105 rfl rfl ?_
        refine g_get (pc' := 109) C kf_OL 0 mw_2_44 d_OL_through_106 rfl 0 rfl (by decide) rfl ?_
        refine g_get (pc' := 112) C kf_Wa 0 mw_1_64 d_OL_through_109 rfl 1 rfl (by decide) rfl ?_
        refine g_iload_n (pc' := 113) C 2 d_OL_through_112 rfl rfl ?_
        refine g_iload_n (pc' := 114) C 3 d_OL_through_113 rfl rfl ?_
        refine g_iload_n (pc' := 115) C 4 d_OL_through_114 rfl rfl ?_
        replace hf := g_bi hf; obtain ⟨⟨r1, u2, u3⟩, hc4, hf⟩ := hf
        dsimp only at hf
        refine g_callV (pc' := 118) (st1 := [.int r1]) (ws1 := [O_OL a_o a_o_wall a_o_imageOfWall x_o_imageIsKept a_o_rules a_o_tape a_o_costs a_o_thought a_o_acts a_o_shelves, O_Wa a_o_wall x_o_wall_lamps x_o_wall_picture x_o_wall_night x_o_wall_spent a_o_wall_had a_o_wall_told a_o_wall_last a_o_wall_often, O_Th a_o_thought a_o_thought_wall a_o_thought_way a_o_thought_best x_o_thought_bestLength x_o_thought_open x_o_thought_found, O_Wa a_o_thought_wall u2 x_o_thought_wall_picture x_o_thought_wall_night x_o_thought_wall_spent a_o_thought_wall_had a_o_thought_wall_told a_o_thought_wall_last a_o_thought_wall_often, A_I dA a_o_thought_way 15 u3]) C (c_Th_lampThrough (l := l) (D := D) (dA := dA) (a_o := a_o_thought) (a_o_wall := a_o_thought_wall) (a_o_way := a_o_thought_way) (a_o_best := a_o_thought_best) (a_o_wall_had := a_o_thought_wall_had) (a_o_wall_told := a_o_thought_wall_told) (a_o_wall_last := a_o_thought_wall_last) (a_o_wall_often := a_o_thought_wall_often) (x_o_bestLength := x_o_thought_bestLength) (x_o_open := x_o_thought_open) (x_o_found := x_o_thought_found) (x_o_wall_picture := x_o_thought_wall_picture) (x_o_wall_night := x_o_thought_wall_night) (x_o_wall_spent := x_o_thought_wall_spent)   hc4) yy_Th_lampThrough kf_Th rfl mw_3_206 d_OL_through_115 rfl [] rfl rfl (Nat.le_of_ble_eq_true rfl) ⟨Nat.le_of_ble_eq_true rfl, Nat.le_of_ble_eq_true rfl⟩ rfl rfl (Nat.zero_le _) (Nat.zero_le _) 2 rfl [2, 3, 4] rfl (by decide +kernel) rfl (g_lay_sel _ _ _ _ [(0, false), (1, false), (0, true), (1, true), (2, true)] (by decide +kernel) rfl (by decide +kernel) rfl rfl) rfl ?_
        replace hf := g_o2 hf; obtain ⟨h1, hf⟩ := hf; subst h1
        replace hf := g_o2 hf; obtain ⟨h1, hf⟩ := hf; subst h1
        replace hf := Option.some.inj hf; subst hf
        exact g_iret C d_OL_through_118 () rfl
      · replace hf := g_bf h hf
        refine g_bipush (pc' := 100) (v := (-2)) C d_OL_through_98 rfl rfl ?_
        replace hf := g_o2 hf; obtain ⟨h1, hf⟩ := hf; subst h1
        replace hf := g_o2 hf; obtain ⟨h1, hf⟩ := hf; subst h1
        replace hf := Option.some.inj hf; subst hf
        exact g_iret C d_OL_through_100 () rfl
    · replace hf := g_in h hf
      refine g_bipush (pc' := 92) (v := (-5)) C d_OL_through_90 rfl rfl ?_
      replace hf := g_o2 hf; obtain ⟨h1, hf⟩ := hf; subst h1
      replace hf := g_o2 hf; obtain ⟨h1, hf⟩ := hf; subst h1
      replace hf := Option.some.inj hf; subst hf
      exact g_iret C d_OL_through_92 () rfl
  · replace hf := g_ip h hf
    refine g_iload (pc' := 70) C 0 d_OL_through_68 rfl rfl ?_
    refine g_if_eqb (pc' := 73) (tgt := 77) C d_OL_through_70 rfl rfl (fun h => ?_) (fun h => ?_)
    · replace hf := g_bf h hf
      refine g_iconst (pc' := 78) (v := 0) C d_OL_through_77 rfl rfl ?_
      replace hf := g_o2 hf; obtain ⟨h1, hf⟩ := hf; subst h1
      replace hf := g_o2 hf; obtain ⟨h1, hf⟩ := hf; subst h1
      replace hf := Option.some.inj hf; subst hf
      exact g_iret C d_OL_through_78 () rfl
    · replace hf := g_bt h hf
      refine g_iconst (pc' := 74) (v := 1) C d_OL_through_73 rfl rfl ?_
      refine g_goto (tgt := 78) C d_OL_through_74 rfl ?_
      replace hf := g_o2 hf; obtain ⟨h1, hf⟩ := hf; subst h1
      replace hf := g_o2 hf; obtain ⟨h1, hf⟩ := hf; subst h1
      replace hf := Option.some.inj hf; subst hf
      exact g_iret C d_OL_through_78 () rfl
def f_OL_through  (p1 : Int32) (p2 : Int32) (p3 : Int32) (x_o_wall_lamps : Int32) (x_o_thought_wall_lamps : Int32) (x_o_thought_way : Nat → Int32) : Option (Int32 × Int32 × (Nat → Int32)) :=
  (f_Wa_hasPicture  p1 x_o_wall_lamps).bind fun r5 =>
  if r5 = true then
    ((f_Wa_hasPicture  p2 x_o_wall_lamps).bind fun r7 =>
    if r7 = true then
      (if p3 < (-1 : Int32) then
        (some ((-1 : Int32), x_o_thought_wall_lamps, x_o_thought_way))
      else
        (if p3 ≤ (((1 : Int32) <<< (x_o_wall_lamps &&& 31)) - (2 : Int32)) then
          ((f_JI_bitCount  (p1 ^^^ p2)).bind fun r9 =>
          if (r9 - r9 / (2 : Int32) * (2 : Int32)) = (1 : Int32) then
            (f_OL_through_L61  p1 p2 p3 true x_o_wall_lamps x_o_thought_wall_lamps x_o_thought_way)
          else
            (f_OL_through_L61  p1 p2 p3 false x_o_wall_lamps x_o_thought_wall_lamps x_o_thought_way))
        else
          (some ((-1 : Int32), x_o_thought_wall_lamps, x_o_thought_way))))
    else
      (some ((-1 : Int32), x_o_thought_wall_lamps, x_o_thought_way)))
  else
    (some ((-1 : Int32), x_o_thought_wall_lamps, x_o_thought_way))
set_option maxRecDepth 20000 in
theorem c_OL_through {l : Launch} {D : va_G} {dA : Nat → ClassId} {a_o a_o_wall a_o_imageOfWall a_o_rules a_o_tape a_o_costs a_o_thought a_o_acts a_o_shelves a_o_wall_had a_o_wall_told a_o_wall_last a_o_wall_often a_o_thought_wall a_o_thought_way a_o_thought_best a_o_thought_wall_had a_o_thought_wall_told a_o_thought_wall_last a_o_thought_wall_often : Nat} {x_o_imageIsKept : Bool} {x_o_wall_picture : Int32} {x_o_wall_night : Int32} {x_o_wall_spent : Int32} {x_o_thought_bestLength : Int32} {x_o_thought_open : Int32} {x_o_thought_found : Int32} {x_o_thought_wall_picture : Int32} {x_o_thought_wall_night : Int32} {x_o_thought_wall_spent : Int32} {p1 : Int32} {p2 : Int32} {p3 : Int32} {x_o_wall_lamps : Int32} {x_o_thought_wall_lamps : Int32} {x_o_thought_way : Nat → Int32} {r0 : Int32} {o_x_o_thought_wall_lamps : Int32} {o_x_o_thought_way : Nat → Int32}   (hf : f_OL_through  p1 p2 p3 x_o_wall_lamps x_o_thought_wall_lamps x_o_thought_way = some (r0, o_x_o_thought_wall_lamps, o_x_o_thought_way)) : CT l y_OL_through prog_1_method_22_code 5 (some .int) { frames := 22, cells := 0, slots := 0, locals := 591 } D dA [.ref a_o, .int p1, .int p2, .int p3] [O_OL a_o a_o_wall a_o_imageOfWall x_o_imageIsKept a_o_rules a_o_tape a_o_costs a_o_thought a_o_acts a_o_shelves, O_Wa a_o_wall x_o_wall_lamps x_o_wall_picture x_o_wall_night x_o_wall_spent a_o_wall_had a_o_wall_told a_o_wall_last a_o_wall_often, O_Th a_o_thought a_o_thought_wall a_o_thought_way a_o_thought_best x_o_thought_bestLength x_o_thought_open x_o_thought_found, O_Wa a_o_thought_wall x_o_thought_wall_lamps x_o_thought_wall_picture x_o_thought_wall_night x_o_thought_wall_spent a_o_thought_wall_had a_o_thought_wall_told a_o_thought_wall_last a_o_thought_wall_often, A_I dA a_o_thought_way 15 x_o_thought_way] (some (.int r0)) (fun _ : Unit => [O_OL a_o a_o_wall a_o_imageOfWall x_o_imageIsKept a_o_rules a_o_tape a_o_costs a_o_thought a_o_acts a_o_shelves, O_Wa a_o_wall x_o_wall_lamps x_o_wall_picture x_o_wall_night x_o_wall_spent a_o_wall_had a_o_wall_told a_o_wall_last a_o_wall_often, O_Th a_o_thought a_o_thought_wall a_o_thought_way a_o_thought_best x_o_thought_bestLength x_o_thought_open x_o_thought_found, O_Wa a_o_thought_wall o_x_o_thought_wall_lamps x_o_thought_wall_picture x_o_thought_wall_night x_o_thought_wall_spent a_o_thought_wall_had a_o_thought_wall_told a_o_thought_wall_last a_o_thought_wall_often, A_I dA a_o_thought_way 15 o_x_o_thought_way]) := by
  refine ct_intro "OneLamp" rfl (by decide +kernel) (Nat.le_of_ble_eq_true rfl) [(0, .ref a_o), (1, .int p1), (2, .int p2), (3, .int p3)] rfl (fun _ C => ?_)
  unfold f_OL_through at hf
  refine g_aload_n (pc' := 1) C 0 d_OL_through_0 rfl rfl ?_
  refine g_get (pc' := 4) C kf_OL 0 mw_2_44 d_OL_through_1 rfl 0 rfl (by decide) rfl ?_
  refine g_iload_n (pc' := 5) C 1 d_OL_through_4 rfl rfl ?_
  replace hf := g_bi hf; obtain ⟨r5, hc6, hf⟩ := hf
  refine g_callV (pc' := 8) (st1 := [.int (b2i r5)]) (ws1 := [O_OL a_o a_o_wall a_o_imageOfWall x_o_imageIsKept a_o_rules a_o_tape a_o_costs a_o_thought a_o_acts a_o_shelves, O_Wa a_o_wall x_o_wall_lamps x_o_wall_picture x_o_wall_night x_o_wall_spent a_o_wall_had a_o_wall_told a_o_wall_last a_o_wall_often, O_Th a_o_thought a_o_thought_wall a_o_thought_way a_o_thought_best x_o_thought_bestLength x_o_thought_open x_o_thought_found, O_Wa a_o_thought_wall x_o_thought_wall_lamps x_o_thought_wall_picture x_o_thought_wall_night x_o_thought_wall_spent a_o_thought_wall_had a_o_thought_wall_told a_o_thought_wall_last a_o_thought_wall_often, A_I dA a_o_thought_way 15 x_o_thought_way]) C (c_Wa_hasPicture (l := l) (D := D) (dA := dA) (a_o := a_o_wall) (a_o_had := a_o_wall_had) (a_o_told := a_o_wall_told) (a_o_last := a_o_wall_last) (a_o_often := a_o_wall_often) (x_o_picture := x_o_wall_picture) (x_o_night := x_o_wall_night) (x_o_spent := x_o_wall_spent)   hc6) yy_Wa_hasPicture kf_Wa rfl mw_2_82 d_OL_through_5 rfl [] rfl rfl (Nat.le_of_ble_eq_true rfl) ⟨Nat.le_of_ble_eq_true rfl, Nat.le_of_ble_eq_true rfl⟩ rfl rfl (Nat.zero_le _) (Nat.zero_le _) 1 rfl [1] rfl (by decide +kernel) rfl (g_lay_sel _ _ _ _ [(0, false), (0, true), (2, false), (3, false), (4, false)] (by decide +kernel) rfl (by decide +kernel) rfl rfl) rfl ?_
  refine g_if_eqb (pc' := 11) (tgt := 42) C d_OL_through_8 rfl rfl (fun h => ?_) (fun h => ?_)
  · replace hf := g_bf h hf
    refine g_iconst (pc' := 43) (v := (-1)) C d_OL_through_42 rfl rfl ?_
    replace hf := g_o2 hf; obtain ⟨h1, hf⟩ := hf; subst h1
    replace hf := g_o2 hf; obtain ⟨h1, hf⟩ := hf; subst h1
    replace hf := Option.some.inj hf; subst hf
    exact g_iret C d_OL_through_43 () rfl
  · replace hf := g_bt h hf
    refine g_aload_n (pc' := 12) C 0 d_OL_through_11 rfl rfl ?_
    refine g_get (pc' := 15) C kf_OL 0 mw_2_44 d_OL_through_12 rfl 0 rfl (by decide) rfl ?_
    refine g_iload_n (pc' := 16) C 2 d_OL_through_15 rfl rfl ?_
    replace hf := g_bi hf; obtain ⟨r7, hc8, hf⟩ := hf
    refine g_callV (pc' := 19) (st1 := [.int (b2i r7)]) (ws1 := [O_OL a_o a_o_wall a_o_imageOfWall x_o_imageIsKept a_o_rules a_o_tape a_o_costs a_o_thought a_o_acts a_o_shelves, O_Wa a_o_wall x_o_wall_lamps x_o_wall_picture x_o_wall_night x_o_wall_spent a_o_wall_had a_o_wall_told a_o_wall_last a_o_wall_often, O_Th a_o_thought a_o_thought_wall a_o_thought_way a_o_thought_best x_o_thought_bestLength x_o_thought_open x_o_thought_found, O_Wa a_o_thought_wall x_o_thought_wall_lamps x_o_thought_wall_picture x_o_thought_wall_night x_o_thought_wall_spent a_o_thought_wall_had a_o_thought_wall_told a_o_thought_wall_last a_o_thought_wall_often, A_I dA a_o_thought_way 15 x_o_thought_way]) C (c_Wa_hasPicture (l := l) (D := D) (dA := dA) (a_o := a_o_wall) (a_o_had := a_o_wall_had) (a_o_told := a_o_wall_told) (a_o_last := a_o_wall_last) (a_o_often := a_o_wall_often) (x_o_picture := x_o_wall_picture) (x_o_night := x_o_wall_night) (x_o_spent := x_o_wall_spent)   hc8) yy_Wa_hasPicture kf_Wa rfl mw_2_82 d_OL_through_16 rfl [] rfl rfl (Nat.le_of_ble_eq_true rfl) ⟨Nat.le_of_ble_eq_true rfl, Nat.le_of_ble_eq_true rfl⟩ rfl rfl (Nat.zero_le _) (Nat.zero_le _) 1 rfl [1] rfl (by decide +kernel) rfl (g_lay_sel _ _ _ _ [(0, false), (0, true), (2, false), (3, false), (4, false)] (by decide +kernel) rfl (by decide +kernel) rfl rfl) rfl ?_
    refine g_if_eqb (pc' := 22) (tgt := 42) C d_OL_through_19 rfl rfl (fun h => ?_) (fun h => ?_)
    · replace hf := g_bf h hf
      refine g_iconst (pc' := 43) (v := (-1)) C d_OL_through_42 rfl rfl ?_
      replace hf := g_o2 hf; obtain ⟨h1, hf⟩ := hf; subst h1
      replace hf := g_o2 hf; obtain ⟨h1, hf⟩ := hf; subst h1
      replace hf := Option.some.inj hf; subst hf
      exact g_iret C d_OL_through_43 () rfl
    · replace hf := g_bt h hf
      refine g_iload_n (pc' := 23) C 3 d_OL_through_22 rfl rfl ?_
      refine g_iconst (pc' := 24) (v := (-1)) C d_OL_through_23 rfl rfl ?_
      refine g_icmp_lt (pc' := 27) (tgt := 42) C d_OL_through_24 rfl rfl (fun h => ?_) (fun h => ?_)
      · replace hf := g_ip h hf
        refine g_iconst (pc' := 43) (v := (-1)) C d_OL_through_42 rfl rfl ?_
        replace hf := g_o2 hf; obtain ⟨h1, hf⟩ := hf; subst h1
        replace hf := g_o2 hf; obtain ⟨h1, hf⟩ := hf; subst h1
        replace hf := Option.some.inj hf; subst hf
        exact g_iret C d_OL_through_43 () rfl
      · replace hf := g_in h hf
        refine g_iload_n (pc' := 28) C 3 d_OL_through_27 rfl rfl ?_
        refine g_iconst (pc' := 29) (v := 1) C d_OL_through_28 rfl rfl ?_
        refine g_aload_n (pc' := 30) C 0 d_OL_through_29 rfl rfl ?_
        refine g_get (pc' := 33) C kf_OL 0 mw_2_44 d_OL_through_30 rfl 0 rfl (by decide) rfl ?_
        refine g_get (pc' := 36) C kf_Wa 0 mw_1_64 d_OL_through_33 rfl 1 rfl (by decide) rfl ?_
        refine g_ishl (pc' := 37) C d_OL_through_36 rfl ?_
        refine g_iconst (pc' := 38) (v := 2) C d_OL_through_37 rfl rfl ?_
        refine g_isub (pc' := 39) C d_OL_through_38 rfl ?_
        refine g_icmp_le (pc' := 42) (tgt := 44) C d_OL_through_39 rfl rfl (fun h => ?_) (fun h => ?_)
        · replace hf := g_ip h hf
          refine g_iload_n (pc' := 45) C 1 d_OL_through_44 rfl rfl ?_
          refine g_iload_n (pc' := 46) C 2 d_OL_through_45 rfl rfl ?_
          refine g_ixor (pc' := 47) C d_OL_through_46 rfl ?_
          replace hf := g_bi hf; obtain ⟨r9, hc10, hf⟩ := hf
          refine g_callS (pc' := 50) (st1 := [.int r9]) (ws1 := [O_OL a_o a_o_wall a_o_imageOfWall x_o_imageIsKept a_o_rules a_o_tape a_o_costs a_o_thought a_o_acts a_o_shelves, O_Wa a_o_wall x_o_wall_lamps x_o_wall_picture x_o_wall_night x_o_wall_spent a_o_wall_had a_o_wall_told a_o_wall_last a_o_wall_often, O_Th a_o_thought a_o_thought_wall a_o_thought_way a_o_thought_best x_o_thought_bestLength x_o_thought_open x_o_thought_found, O_Wa a_o_thought_wall x_o_thought_wall_lamps x_o_thought_wall_picture x_o_thought_wall_night x_o_thought_wall_spent a_o_thought_wall_had a_o_thought_wall_told a_o_thought_wall_last a_o_thought_wall_often, A_I dA a_o_thought_way 15 x_o_thought_way]) C (c_JI_bitCount (l := l) (D := D) (dA := dA)    hc10) yy_JI_bitCount mw_3_205 d_OL_through_47 rfl [] rfl rfl (Nat.le_of_ble_eq_true rfl) ⟨Nat.le_of_ble_eq_true rfl, Nat.le_of_ble_eq_true rfl⟩ rfl rfl (Nat.zero_le _) (Nat.zero_le _) [] rfl (by decide +kernel) rfl (g_lay_sel _ _ _ _ [(0, false), (1, false), (2, false), (3, false), (4, false)] (by decide +kernel) rfl (by decide +kernel) rfl rfl) rfl ?_
          refine g_iconst (pc' := 51) (v := 2) C d_OL_through_50 rfl rfl ?_
          refine g_irem (pc' := 52) C d_OL_through_51 rfl (by decide) ?_
          refine g_iconst (pc' := 53) (v := 1) C d_OL_through_52 rfl rfl ?_
          refine g_icmp_ne (pc' := 56) (tgt := 60) C d_OL_through_53 rfl rfl (fun h => ?_) (fun h => ?_)
          · replace hf := g_in h hf
            refine g_iconst (pc' := 61) (v := 0) C d_OL_through_60 rfl rfl ?_
            exact w_OL_through_L61 (a_o := a_o) (a_o_wall := a_o_wall) (a_o_imageOfWall := a_o_imageOfWall) (a_o_rules := a_o_rules) (a_o_tape := a_o_tape) (a_o_costs := a_o_costs) (a_o_thought := a_o_thought) (a_o_acts := a_o_acts) (a_o_shelves := a_o_shelves) (a_o_wall_had := a_o_wall_had) (a_o_wall_told := a_o_wall_told) (a_o_wall_last := a_o_wall_last) (a_o_wall_often := a_o_wall_often) (a_o_thought_wall := a_o_thought_wall) (a_o_thought_way := a_o_thought_way) (a_o_thought_best := a_o_thought_best) (a_o_thought_wall_had := a_o_thought_wall_had) (a_o_thought_wall_told := a_o_thought_wall_told) (a_o_thought_wall_last := a_o_thought_wall_last) (a_o_thought_wall_often := a_o_thought_wall_often) C   p1 p2 p3 false x_o_wall_lamps x_o_thought_wall_lamps x_o_thought_way hf
          · replace hf := g_ip h hf
            refine g_iconst (pc' := 57) (v := 1) C d_OL_through_56 rfl rfl ?_
            refine g_goto (tgt := 61) C d_OL_through_57 rfl ?_
            exact w_OL_through_L61 (a_o := a_o) (a_o_wall := a_o_wall) (a_o_imageOfWall := a_o_imageOfWall) (a_o_rules := a_o_rules) (a_o_tape := a_o_tape) (a_o_costs := a_o_costs) (a_o_thought := a_o_thought) (a_o_acts := a_o_acts) (a_o_shelves := a_o_shelves) (a_o_wall_had := a_o_wall_had) (a_o_wall_told := a_o_wall_told) (a_o_wall_last := a_o_wall_last) (a_o_wall_often := a_o_wall_often) (a_o_thought_wall := a_o_thought_wall) (a_o_thought_way := a_o_thought_way) (a_o_thought_best := a_o_thought_best) (a_o_thought_wall_had := a_o_thought_wall_had) (a_o_thought_wall_told := a_o_thought_wall_told) (a_o_thought_wall_last := a_o_thought_wall_last) (a_o_thought_wall_often := a_o_thought_wall_often) C   p1 p2 p3 true x_o_wall_lamps x_o_thought_wall_lamps x_o_thought_way hf
        · replace hf := g_in h hf
          refine g_iconst (pc' := 43) (v := (-1)) C d_OL_through_42 rfl rfl ?_
          replace hf := g_o2 hf; obtain ⟨h1, hf⟩ := hf; subst h1
          replace hf := g_o2 hf; obtain ⟨h1, hf⟩ := hf; subst h1
          replace hf := Option.some.inj hf; subst hf
          exact g_iret C d_OL_through_43 () rfl
def y_OL_image : MethodName := ⟨"OneLamp", "image", "()I"⟩
theorem yy_OL_image : YV y_OL_image prog_1_method_23_code 1 (some .int) 0 := ⟨mw_3_216, mw_1_1, mw_3_214, mw_3_215, by decide +kernel, by decide +kernel, by decide +kernel⟩
theorem d_OL_image_0 : decode prog_1_method_23_code 0 = .ok (.aload_n 0, 1) := by decide +kernel
theorem d_OL_image_1 : decode prog_1_method_23_code 1 = .ok (.getfield 16, 3) := by decide +kernel
theorem d_OL_image_4 : decode prog_1_method_23_code 4 = .ok (.aload_n 0, 1) := by decide +kernel
theorem d_OL_image_5 : decode prog_1_method_23_code 5 = .ok (.getfield 10, 3) := by decide +kernel
theorem d_OL_image_8 : decode prog_1_method_23_code 8 = .ok (.invokevirtual 222, 3) := by decide +kernel
theorem d_OL_image_11 : decode prog_1_method_23_code 11 = .ok (.aload_n 0, 1) := by decide +kernel
theorem d_OL_image_12 : decode prog_1_method_23_code 12 = .ok (.iconst 1, 1) := by decide +kernel
theorem d_OL_image_13 : decode prog_1_method_23_code 13 = .ok (.putfield 226, 3) := by decide +kernel
theorem d_OL_image_16 : decode prog_1_method_23_code 16 = .ok (.aload_n 0, 1) := by decide +kernel
theorem d_OL_image_17 : decode prog_1_method_23_code 17 = .ok (.getfield 10, 3) := by decide +kernel
theorem d_OL_image_20 : decode prog_1_method_23_code 20 = .ok (.getfield 142, 3) := by decide +kernel
theorem d_OL_image_23 : decode prog_1_method_23_code 23 = .ok (.ireturn, 1) := by decide +kernel
def f_OL_image  (x_o_imageIsKept : Bool) (x_o_wall_lamps : Int32) (x_o_wall_picture : Int32) (x_o_wall_night : Int32) (x_o_wall_spent : Int32) (x_o_imageOfWall_lamps : Int32) (x_o_imageOfWall_picture : Int32) (x_o_imageOfWall_night : Int32) (x_o_imageOfWall_spent : Int32) (x_o_imageOfWall_had_words : Nat → Int64) (x_o_wall_had_words : Nat → Int64) (x_o_imageOfWall_told_words : Nat → Int64) (x_o_wall_told_words : Nat → Int64) (x_o_wall_last : Nat → Int32) (x_o_imageOfWall_last : Nat → Int32) (x_o_wall_often : Nat → Int32) (x_o_imageOfWall_often : Nat → Int32) : Option (Int32 × Bool × Int32 × Int32 × Int32 × Int32 × (Nat → Int64) × (Nat → Int64) × (Nat → Int32) × (Nat → Int32)) :=
  (f_Wa_become  x_o_wall_lamps x_o_wall_picture x_o_wall_night x_o_wall_spent x_o_imageOfWall_lamps x_o_imageOfWall_picture x_o_imageOfWall_night x_o_imageOfWall_spent x_o_imageOfWall_had_words x_o_wall_had_words x_o_imageOfWall_told_words x_o_wall_told_words x_o_wall_last x_o_imageOfWall_last x_o_wall_often x_o_imageOfWall_often).bind fun (u1, u2, u3, u4, u5, u6, u7, u8) =>
  some (x_o_wall_night, true, u1, u2, u3, u4, u5, u6, u7, u8)
set_option maxRecDepth 20000 in
theorem c_OL_image {l : Launch} {D : va_G} {dA : Nat → ClassId} {a_o a_o_wall a_o_imageOfWall a_o_rules a_o_tape a_o_costs a_o_thought a_o_acts a_o_shelves a_o_wall_had a_o_wall_told a_o_wall_last a_o_wall_often a_o_imageOfWall_had a_o_imageOfWall_told a_o_imageOfWall_last a_o_imageOfWall_often a_o_wall_had_words a_o_imageOfWall_had_words a_o_wall_told_words a_o_imageOfWall_told_words : Nat}  {x_o_imageIsKept : Bool} {x_o_wall_lamps : Int32} {x_o_wall_picture : Int32} {x_o_wall_night : Int32} {x_o_wall_spent : Int32} {x_o_imageOfWall_lamps : Int32} {x_o_imageOfWall_picture : Int32} {x_o_imageOfWall_night : Int32} {x_o_imageOfWall_spent : Int32} {x_o_imageOfWall_had_words : Nat → Int64} {x_o_wall_had_words : Nat → Int64} {x_o_imageOfWall_told_words : Nat → Int64} {x_o_wall_told_words : Nat → Int64} {x_o_wall_last : Nat → Int32} {x_o_imageOfWall_last : Nat → Int32} {x_o_wall_often : Nat → Int32} {x_o_imageOfWall_often : Nat → Int32} {r0 : Int32} {o_x_o_imageIsKept : Bool} {o_x_o_imageOfWall_lamps : Int32} {o_x_o_imageOfWall_picture : Int32} {o_x_o_imageOfWall_night : Int32} {o_x_o_imageOfWall_spent : Int32} {o_x_o_imageOfWall_had_words : Nat → Int64} {o_x_o_imageOfWall_told_words : Nat → Int64} {o_x_o_imageOfWall_last : Nat → Int32} {o_x_o_imageOfWall_often : Nat → Int32}   (hf : f_OL_image  x_o_imageIsKept x_o_wall_lamps x_o_wall_picture x_o_wall_night x_o_wall_spent x_o_imageOfWall_lamps x_o_imageOfWall_picture x_o_imageOfWall_night x_o_imageOfWall_spent x_o_imageOfWall_had_words x_o_wall_had_words x_o_imageOfWall_told_words x_o_wall_told_words x_o_wall_last x_o_imageOfWall_last x_o_wall_often x_o_imageOfWall_often = some (r0, o_x_o_imageIsKept, o_x_o_imageOfWall_lamps, o_x_o_imageOfWall_picture, o_x_o_imageOfWall_night, o_x_o_imageOfWall_spent, o_x_o_imageOfWall_had_words, o_x_o_imageOfWall_told_words, o_x_o_imageOfWall_last, o_x_o_imageOfWall_often)) : CT l y_OL_image prog_1_method_23_code 1 (some .int) { frames := 3, cells := 0, slots := 0, locals := 82 } D dA [.ref a_o] [O_OL a_o a_o_wall a_o_imageOfWall x_o_imageIsKept a_o_rules a_o_tape a_o_costs a_o_thought a_o_acts a_o_shelves, O_Wa a_o_wall x_o_wall_lamps x_o_wall_picture x_o_wall_night x_o_wall_spent a_o_wall_had a_o_wall_told a_o_wall_last a_o_wall_often, O_Wa a_o_imageOfWall x_o_imageOfWall_lamps x_o_imageOfWall_picture x_o_imageOfWall_night x_o_imageOfWall_spent a_o_imageOfWall_had a_o_imageOfWall_told a_o_imageOfWall_last a_o_imageOfWall_often, O_Pi a_o_wall_had a_o_wall_had_words, O_Pi a_o_imageOfWall_had a_o_imageOfWall_had_words, A_J dA a_o_imageOfWall_had_words 16 x_o_imageOfWall_had_words, A_J dA a_o_wall_had_words 16 x_o_wall_had_words, O_Pi a_o_wall_told a_o_wall_told_words, O_Pi a_o_imageOfWall_told a_o_imageOfWall_told_words, A_J dA a_o_imageOfWall_told_words 16 x_o_imageOfWall_told_words, A_J dA a_o_wall_told_words 16 x_o_wall_told_words, A_I dA a_o_wall_last 10 x_o_wall_last, A_I dA a_o_imageOfWall_last 10 x_o_imageOfWall_last, A_I dA a_o_wall_often 10 x_o_wall_often, A_I dA a_o_imageOfWall_often 10 x_o_imageOfWall_often] (some (.int r0)) (fun _ : Unit => [O_OL a_o a_o_wall a_o_imageOfWall o_x_o_imageIsKept a_o_rules a_o_tape a_o_costs a_o_thought a_o_acts a_o_shelves, O_Wa a_o_wall x_o_wall_lamps x_o_wall_picture x_o_wall_night x_o_wall_spent a_o_wall_had a_o_wall_told a_o_wall_last a_o_wall_often, O_Wa a_o_imageOfWall o_x_o_imageOfWall_lamps o_x_o_imageOfWall_picture o_x_o_imageOfWall_night o_x_o_imageOfWall_spent a_o_imageOfWall_had a_o_imageOfWall_told a_o_imageOfWall_last a_o_imageOfWall_often, O_Pi a_o_wall_had a_o_wall_had_words, O_Pi a_o_imageOfWall_had a_o_imageOfWall_had_words, A_J dA a_o_imageOfWall_had_words 16 o_x_o_imageOfWall_had_words, A_J dA a_o_wall_had_words 16 x_o_wall_had_words, O_Pi a_o_wall_told a_o_wall_told_words, O_Pi a_o_imageOfWall_told a_o_imageOfWall_told_words, A_J dA a_o_imageOfWall_told_words 16 o_x_o_imageOfWall_told_words, A_J dA a_o_wall_told_words 16 x_o_wall_told_words, A_I dA a_o_wall_last 10 x_o_wall_last, A_I dA a_o_imageOfWall_last 10 o_x_o_imageOfWall_last, A_I dA a_o_wall_often 10 x_o_wall_often, A_I dA a_o_imageOfWall_often 10 o_x_o_imageOfWall_often]) := by
  refine ct_intro "OneLamp" rfl (by decide +kernel) (Nat.le_of_ble_eq_true rfl) [(0, .ref a_o)] rfl (fun _ C => ?_)
  unfold f_OL_image at hf
  refine g_aload_n (pc' := 1) C 0 d_OL_image_0 rfl rfl ?_
  refine g_get (pc' := 4) C kf_OL 1 mw_2_45 d_OL_image_1 rfl 0 rfl (by decide) rfl ?_
  refine g_aload_n (pc' := 5) C 0 d_OL_image_4 rfl rfl ?_
  refine g_get (pc' := 8) C kf_OL 0 mw_2_44 d_OL_image_5 rfl 0 rfl (by decide) rfl ?_
  replace hf := g_bi hf; obtain ⟨⟨u1, u2, u3, u4, u5, u6, u7, u8⟩, hc9, hf⟩ := hf
  dsimp only at hf
  refine g_callV (pc' := 11) (st1 := []) (ws1 := [O_OL a_o a_o_wall a_o_imageOfWall x_o_imageIsKept a_o_rules a_o_tape a_o_costs a_o_thought a_o_acts a_o_shelves, O_Wa a_o_wall x_o_wall_lamps x_o_wall_picture x_o_wall_night x_o_wall_spent a_o_wall_had a_o_wall_told a_o_wall_last a_o_wall_often, O_Wa a_o_imageOfWall u1 u2 u3 u4 a_o_imageOfWall_had a_o_imageOfWall_told a_o_imageOfWall_last a_o_imageOfWall_often, O_Pi a_o_wall_had a_o_wall_had_words, O_Pi a_o_imageOfWall_had a_o_imageOfWall_had_words, A_J dA a_o_imageOfWall_had_words 16 u5, A_J dA a_o_wall_had_words 16 x_o_wall_had_words, O_Pi a_o_wall_told a_o_wall_told_words, O_Pi a_o_imageOfWall_told a_o_imageOfWall_told_words, A_J dA a_o_imageOfWall_told_words 16 u6, A_J dA a_o_wall_told_words 16 x_o_wall_told_words, A_I dA a_o_wall_last 10 x_o_wall_last, A_I dA a_o_imageOfWall_last 10 u7, A_I dA a_o_wall_often 10 x_o_wall_often, A_I dA a_o_imageOfWall_often 10 u8]) C (c_Wa_become (l := l) (D := D) (dA := dA) (a_o := a_o_imageOfWall) (a_p1 := a_o_wall) (a_p1_had := a_o_wall_had) (a_p1_told := a_o_wall_told) (a_p1_last := a_o_wall_last) (a_p1_often := a_o_wall_often) (a_o_had := a_o_imageOfWall_had) (a_o_told := a_o_imageOfWall_told) (a_o_last := a_o_imageOfWall_last) (a_o_often := a_o_imageOfWall_often) (a_p1_had_words := a_o_wall_had_words) (a_o_had_words := a_o_imageOfWall_had_words) (a_p1_told_words := a_o_wall_told_words) (a_o_told_words := a_o_imageOfWall_told_words)   hc9) yy_Wa_become kf_Wa rfl mw_3_217 d_OL_image_8 rfl [] rfl rfl (Nat.le_of_ble_eq_true rfl) ⟨Nat.le_of_ble_eq_true rfl, Nat.le_of_ble_eq_true rfl⟩ rfl rfl (Nat.zero_le _) (Nat.zero_le _) 2 rfl [1, 2, 3, 4, 5, 6, 7, 8, 9, 10, 11, 12, 13, 14] rfl (by decide +kernel) rfl (g_lay_sel _ _ _ _ [(0, false), (0, true), (1, true), (2, true), (3, true), (4, true), (5, true), (6, true), (7, true), (8, true), (9, true), (10, true), (11, true), (12, true), (13, true)] (by decide +kernel) rfl (by decide +kernel) rfl rfl) rfl ?_
  refine g_aload_n (pc' := 12) C 0 d_OL_image_11 rfl rfl ?_
  refine g_iconst (pc' := 13) (v := 1) C d_OL_image_12 rfl rfl ?_
  refine g_put (pc' := 16) (ws' := [O_OL a_o a_o_wall a_o_imageOfWall true a_o_rules a_o_tape a_o_costs a_o_thought a_o_acts a_o_shelves, O_Wa a_o_wall x_o_wall_lamps x_o_wall_picture x_o_wall_night x_o_wall_spent a_o_wall_had a_o_wall_told a_o_wall_last a_o_wall_often, O_Wa a_o_imageOfWall u1 u2 u3 u4 a_o_imageOfWall_had a_o_imageOfWall_told a_o_imageOfWall_last a_o_imageOfWall_often, O_Pi a_o_wall_had a_o_wall_had_words, O_Pi a_o_imageOfWall_had a_o_imageOfWall_had_words, A_J dA a_o_imageOfWall_had_words 16 u5, A_J dA a_o_wall_had_words 16 x_o_wall_had_words, O_Pi a_o_wall_told a_o_wall_told_words, O_Pi a_o_imageOfWall_told a_o_imageOfWall_told_words, A_J dA a_o_imageOfWall_told_words 16 u6, A_J dA a_o_wall_told_words 16 x_o_wall_told_words, A_I dA a_o_wall_last 10 x_o_wall_last, A_I dA a_o_imageOfWall_last 10 u7, A_I dA a_o_wall_often 10 x_o_wall_often, A_I dA a_o_imageOfWall_often 10 u8]) C kf_OL 2 mw_2_46 d_OL_image_13 rfl 0 rfl (by decide) rfl rfl rfl (Nat.le_of_ble_eq_true rfl) rfl ?_
  refine g_aload_n (pc' := 17) C 0 d_OL_image_16 rfl rfl ?_
  refine g_get (pc' := 20) C kf_OL 0 mw_2_44 d_OL_image_17 rfl 0 rfl (by decide) rfl ?_
  refine g_get (pc' := 23) C kf_Wa 2 mw_1_73 d_OL_image_20 rfl 1 rfl (by decide) rfl ?_
  replace hf := g_o2 hf; obtain ⟨h1, hf⟩ := hf; subst h1
  replace hf := g_o2 hf; obtain ⟨h1, hf⟩ := hf; subst h1
  replace hf := g_o2 hf; obtain ⟨h1, hf⟩ := hf; subst h1
  replace hf := g_o2 hf; obtain ⟨h1, hf⟩ := hf; subst h1
  replace hf := g_o2 hf; obtain ⟨h1, hf⟩ := hf; subst h1
  replace hf := g_o2 hf; obtain ⟨h1, hf⟩ := hf; subst h1
  replace hf := g_o2 hf; obtain ⟨h1, hf⟩ := hf; subst h1
  replace hf := g_o2 hf; obtain ⟨h1, hf⟩ := hf; subst h1
  replace hf := g_o2 hf; obtain ⟨h1, hf⟩ := hf; subst h1
  replace hf := Option.some.inj hf; subst hf
  exact g_iret C d_OL_image_23 () rfl
def y_OL_back : MethodName := ⟨"OneLamp", "back", "()I"⟩
theorem yy_OL_back : YV y_OL_back prog_1_method_24_code 1 (some .int) 0 := ⟨mw_3_221, mw_1_1, mw_3_219, mw_3_220, by decide +kernel, by decide +kernel, by decide +kernel⟩
theorem d_OL_back_0 : decode prog_1_method_24_code 0 = .ok (.aload_n 0, 1) := by decide +kernel
theorem d_OL_back_1 : decode prog_1_method_24_code 1 = .ok (.getfield 226, 3) := by decide +kernel
theorem d_OL_back_4 : decode prog_1_method_24_code 4 = .ok (.ifCond .ne 6, 3) := by decide +kernel
theorem d_OL_back_7 : decode prog_1_method_24_code 7 = .ok (.bipush (-5), 2) := by decide +kernel
theorem d_OL_back_9 : decode prog_1_method_24_code 9 = .ok (.ireturn, 1) := by decide +kernel
theorem d_OL_back_10 : decode prog_1_method_24_code 10 = .ok (.aload_n 0, 1) := by decide +kernel
theorem d_OL_back_11 : decode prog_1_method_24_code 11 = .ok (.getfield 10, 3) := by decide +kernel
theorem d_OL_back_14 : decode prog_1_method_24_code 14 = .ok (.aload_n 0, 1) := by decide +kernel
theorem d_OL_back_15 : decode prog_1_method_24_code 15 = .ok (.getfield 16, 3) := by decide +kernel
theorem d_OL_back_18 : decode prog_1_method_24_code 18 = .ok (.invokevirtual 222, 3) := by decide +kernel
theorem d_OL_back_21 : decode prog_1_method_24_code 21 = .ok (.aload_n 0, 1) := by decide +kernel
theorem d_OL_back_22 : decode prog_1_method_24_code 22 = .ok (.getfield 10, 3) := by decide +kernel
theorem d_OL_back_25 : decode prog_1_method_24_code 25 = .ok (.getfield 142, 3) := by decide +kernel
theorem d_OL_back_28 : decode prog_1_method_24_code 28 = .ok (.ireturn, 1) := by decide +kernel
def f_OL_back  (x_o_imageIsKept : Bool) (x_o_imageOfWall_lamps : Int32) (x_o_imageOfWall_picture : Int32) (x_o_imageOfWall_night : Int32) (x_o_imageOfWall_spent : Int32) (x_o_wall_lamps : Int32) (x_o_wall_picture : Int32) (x_o_wall_night : Int32) (x_o_wall_spent : Int32) (x_o_wall_had_words : Nat → Int64) (x_o_imageOfWall_had_words : Nat → Int64) (x_o_wall_told_words : Nat → Int64) (x_o_imageOfWall_told_words : Nat → Int64) (x_o_imageOfWall_last : Nat → Int32) (x_o_wall_last : Nat → Int32) (x_o_imageOfWall_often : Nat → Int32) (x_o_wall_often : Nat → Int32) : Option (Int32 × Int32 × Int32 × Int32 × Int32 × (Nat → Int64) × (Nat → Int64) × (Nat → Int32) × (Nat → Int32)) :=
  if x_o_imageIsKept = true then
    ((f_Wa_become  x_o_imageOfWall_lamps x_o_imageOfWall_picture x_o_imageOfWall_night x_o_imageOfWall_spent x_o_wall_lamps x_o_wall_picture x_o_wall_night x_o_wall_spent x_o_wall_had_words x_o_imageOfWall_had_words x_o_wall_told_words x_o_imageOfWall_told_words x_o_imageOfWall_last x_o_wall_last x_o_imageOfWall_often x_o_wall_often).bind fun (u1, u2, u3, u4, u5, u6, u7, u8) =>
    some (u3, u1, u2, u3, u4, u5, u6, u7, u8))
  else
    (some ((-5 : Int32), x_o_wall_lamps, x_o_wall_picture, x_o_wall_night, x_o_wall_spent, x_o_wall_had_words, x_o_wall_told_words, x_o_wall_last, x_o_wall_often))
set_option maxRecDepth 20000 in
theorem c_OL_back {l : Launch} {D : va_G} {dA : Nat → ClassId} {a_o a_o_wall a_o_imageOfWall a_o_rules a_o_tape a_o_costs a_o_thought a_o_acts a_o_shelves a_o_imageOfWall_had a_o_imageOfWall_told a_o_imageOfWall_last a_o_imageOfWall_often a_o_wall_had a_o_wall_told a_o_wall_last a_o_wall_often a_o_imageOfWall_had_words a_o_wall_had_words a_o_imageOfWall_told_words a_o_wall_told_words : Nat}  {x_o_imageIsKept : Bool} {x_o_imageOfWall_lamps : Int32} {x_o_imageOfWall_picture : Int32} {x_o_imageOfWall_night : Int32} {x_o_imageOfWall_spent : Int32} {x_o_wall_lamps : Int32} {x_o_wall_picture : Int32} {x_o_wall_night : Int32} {x_o_wall_spent : Int32} {x_o_wall_had_words : Nat → Int64} {x_o_imageOfWall_had_words : Nat → Int64} {x_o_wall_told_words : Nat → Int64} {x_o_imageOfWall_told_words : Nat → Int64} {x_o_imageOfWall_last : Nat → Int32} {x_o_wall_last : Nat → Int32} {x_o_imageOfWall_often : Nat → Int32} {x_o_wall_often : Nat → Int32} {r0 : Int32} {o_x_o_wall_lamps : Int32} {o_x_o_wall_picture : Int32} {o_x_o_wall_night : Int32} {o_x_o_wall_spent : Int32} {o_x_o_wall_had_words : Nat → Int64} {o_x_o_wall_told_words : Nat → Int64} {o_x_o_wall_last : Nat → Int32} {o_x_o_wall_often : Nat → Int32}   (hf : f_OL_back  x_o_imageIsKept x_o_imageOfWall_lamps x_o_imageOfWall_picture x_o_imageOfWall_night x_o_imageOfWall_spent x_o_wall_lamps x_o_wall_picture x_o_wall_night x_o_wall_spent x_o_wall_had_words x_o_imageOfWall_had_words x_o_wall_told_words x_o_imageOfWall_told_words x_o_imageOfWall_last x_o_wall_last x_o_imageOfWall_often x_o_wall_often = some (r0, o_x_o_wall_lamps, o_x_o_wall_picture, o_x_o_wall_night, o_x_o_wall_spent, o_x_o_wall_had_words, o_x_o_wall_told_words, o_x_o_wall_last, o_x_o_wall_often)) : CT l y_OL_back prog_1_method_24_code 1 (some .int) { frames := 3, cells := 0, slots := 0, locals := 82 } D dA [.ref a_o] [O_OL a_o a_o_wall a_o_imageOfWall x_o_imageIsKept a_o_rules a_o_tape a_o_costs a_o_thought a_o_acts a_o_shelves, O_Wa a_o_imageOfWall x_o_imageOfWall_lamps x_o_imageOfWall_picture x_o_imageOfWall_night x_o_imageOfWall_spent a_o_imageOfWall_had a_o_imageOfWall_told a_o_imageOfWall_last a_o_imageOfWall_often, O_Wa a_o_wall x_o_wall_lamps x_o_wall_picture x_o_wall_night x_o_wall_spent a_o_wall_had a_o_wall_told a_o_wall_last a_o_wall_often, O_Pi a_o_imageOfWall_had a_o_imageOfWall_had_words, O_Pi a_o_wall_had a_o_wall_had_words, A_J dA a_o_wall_had_words 16 x_o_wall_had_words, A_J dA a_o_imageOfWall_had_words 16 x_o_imageOfWall_had_words, O_Pi a_o_imageOfWall_told a_o_imageOfWall_told_words, O_Pi a_o_wall_told a_o_wall_told_words, A_J dA a_o_wall_told_words 16 x_o_wall_told_words, A_J dA a_o_imageOfWall_told_words 16 x_o_imageOfWall_told_words, A_I dA a_o_imageOfWall_last 10 x_o_imageOfWall_last, A_I dA a_o_wall_last 10 x_o_wall_last, A_I dA a_o_imageOfWall_often 10 x_o_imageOfWall_often, A_I dA a_o_wall_often 10 x_o_wall_often] (some (.int r0)) (fun _ : Unit => [O_OL a_o a_o_wall a_o_imageOfWall x_o_imageIsKept a_o_rules a_o_tape a_o_costs a_o_thought a_o_acts a_o_shelves, O_Wa a_o_imageOfWall x_o_imageOfWall_lamps x_o_imageOfWall_picture x_o_imageOfWall_night x_o_imageOfWall_spent a_o_imageOfWall_had a_o_imageOfWall_told a_o_imageOfWall_last a_o_imageOfWall_often, O_Wa a_o_wall o_x_o_wall_lamps o_x_o_wall_picture o_x_o_wall_night o_x_o_wall_spent a_o_wall_had a_o_wall_told a_o_wall_last a_o_wall_often, O_Pi a_o_imageOfWall_had a_o_imageOfWall_had_words, O_Pi a_o_wall_had a_o_wall_had_words, A_J dA a_o_wall_had_words 16 o_x_o_wall_had_words, A_J dA a_o_imageOfWall_had_words 16 x_o_imageOfWall_had_words, O_Pi a_o_imageOfWall_told a_o_imageOfWall_told_words, O_Pi a_o_wall_told a_o_wall_told_words, A_J dA a_o_wall_told_words 16 o_x_o_wall_told_words, A_J dA a_o_imageOfWall_told_words 16 x_o_imageOfWall_told_words, A_I dA a_o_imageOfWall_last 10 x_o_imageOfWall_last, A_I dA a_o_wall_last 10 o_x_o_wall_last, A_I dA a_o_imageOfWall_often 10 x_o_imageOfWall_often, A_I dA a_o_wall_often 10 o_x_o_wall_often]) := by
  refine ct_intro "OneLamp" rfl (by decide +kernel) (Nat.le_of_ble_eq_true rfl) [(0, .ref a_o)] rfl (fun _ C => ?_)
  unfold f_OL_back at hf
  refine g_aload_n (pc' := 1) C 0 d_OL_back_0 rfl rfl ?_
  refine g_get (pc' := 4) C kf_OL 2 mw_2_46 d_OL_back_1 rfl 0 rfl (by decide) rfl ?_
  refine g_if_neb (pc' := 7) (tgt := 10) C d_OL_back_4 rfl rfl (fun h => ?_) (fun h => ?_)
  · replace hf := g_bt h hf
    refine g_aload_n (pc' := 11) C 0 d_OL_back_10 rfl rfl ?_
    refine g_get (pc' := 14) C kf_OL 0 mw_2_44 d_OL_back_11 rfl 0 rfl (by decide) rfl ?_
    refine g_aload_n (pc' := 15) C 0 d_OL_back_14 rfl rfl ?_
    refine g_get (pc' := 18) C kf_OL 1 mw_2_45 d_OL_back_15 rfl 0 rfl (by decide) rfl ?_
    replace hf := g_bi hf; obtain ⟨⟨u1, u2, u3, u4, u5, u6, u7, u8⟩, hc9, hf⟩ := hf
    dsimp only at hf
    refine g_callV (pc' := 21) (st1 := []) (ws1 := [O_OL a_o a_o_wall a_o_imageOfWall x_o_imageIsKept a_o_rules a_o_tape a_o_costs a_o_thought a_o_acts a_o_shelves, O_Wa a_o_imageOfWall x_o_imageOfWall_lamps x_o_imageOfWall_picture x_o_imageOfWall_night x_o_imageOfWall_spent a_o_imageOfWall_had a_o_imageOfWall_told a_o_imageOfWall_last a_o_imageOfWall_often, O_Wa a_o_wall u1 u2 u3 u4 a_o_wall_had a_o_wall_told a_o_wall_last a_o_wall_often, O_Pi a_o_imageOfWall_had a_o_imageOfWall_had_words, O_Pi a_o_wall_had a_o_wall_had_words, A_J dA a_o_wall_had_words 16 u5, A_J dA a_o_imageOfWall_had_words 16 x_o_imageOfWall_had_words, O_Pi a_o_imageOfWall_told a_o_imageOfWall_told_words, O_Pi a_o_wall_told a_o_wall_told_words, A_J dA a_o_wall_told_words 16 u6, A_J dA a_o_imageOfWall_told_words 16 x_o_imageOfWall_told_words, A_I dA a_o_imageOfWall_last 10 x_o_imageOfWall_last, A_I dA a_o_wall_last 10 u7, A_I dA a_o_imageOfWall_often 10 x_o_imageOfWall_often, A_I dA a_o_wall_often 10 u8]) C (c_Wa_become (l := l) (D := D) (dA := dA) (a_o := a_o_wall) (a_p1 := a_o_imageOfWall) (a_p1_had := a_o_imageOfWall_had) (a_p1_told := a_o_imageOfWall_told) (a_p1_last := a_o_imageOfWall_last) (a_p1_often := a_o_imageOfWall_often) (a_o_had := a_o_wall_had) (a_o_told := a_o_wall_told) (a_o_last := a_o_wall_last) (a_o_often := a_o_wall_often) (a_p1_had_words := a_o_imageOfWall_had_words) (a_o_had_words := a_o_wall_had_words) (a_p1_told_words := a_o_imageOfWall_told_words) (a_o_told_words := a_o_wall_told_words)   hc9) yy_Wa_become kf_Wa rfl mw_3_217 d_OL_back_18 rfl [] rfl rfl (Nat.le_of_ble_eq_true rfl) ⟨Nat.le_of_ble_eq_true rfl, Nat.le_of_ble_eq_true rfl⟩ rfl rfl (Nat.zero_le _) (Nat.zero_le _) 2 rfl [1, 2, 3, 4, 5, 6, 7, 8, 9, 10, 11, 12, 13, 14] rfl (by decide +kernel) rfl (g_lay_sel _ _ _ _ [(0, false), (0, true), (1, true), (2, true), (3, true), (4, true), (5, true), (6, true), (7, true), (8, true), (9, true), (10, true), (11, true), (12, true), (13, true)] (by decide +kernel) rfl (by decide +kernel) rfl rfl) rfl ?_
    refine g_aload_n (pc' := 22) C 0 d_OL_back_21 rfl rfl ?_
    refine g_get (pc' := 25) C kf_OL 0 mw_2_44 d_OL_back_22 rfl 0 rfl (by decide) rfl ?_
    refine g_get (pc' := 28) C kf_Wa 2 mw_1_73 d_OL_back_25 rfl 2 rfl (by decide) rfl ?_
    replace hf := g_o2 hf; obtain ⟨h1, hf⟩ := hf; subst h1
    replace hf := g_o2 hf; obtain ⟨h1, hf⟩ := hf; subst h1
    replace hf := g_o2 hf; obtain ⟨h1, hf⟩ := hf; subst h1
    replace hf := g_o2 hf; obtain ⟨h1, hf⟩ := hf; subst h1
    replace hf := g_o2 hf; obtain ⟨h1, hf⟩ := hf; subst h1
    replace hf := g_o2 hf; obtain ⟨h1, hf⟩ := hf; subst h1
    replace hf := g_o2 hf; obtain ⟨h1, hf⟩ := hf; subst h1
    replace hf := g_o2 hf; obtain ⟨h1, hf⟩ := hf; subst h1
    replace hf := Option.some.inj hf; subst hf
    exact g_iret C d_OL_back_28 () rfl
  · replace hf := g_bf h hf
    refine g_bipush (pc' := 9) (v := (-5)) C d_OL_back_7 rfl rfl ?_
    replace hf := g_o2 hf; obtain ⟨h1, hf⟩ := hf; subst h1
    replace hf := g_o2 hf; obtain ⟨h1, hf⟩ := hf; subst h1
    replace hf := g_o2 hf; obtain ⟨h1, hf⟩ := hf; subst h1
    replace hf := g_o2 hf; obtain ⟨h1, hf⟩ := hf; subst h1
    replace hf := g_o2 hf; obtain ⟨h1, hf⟩ := hf; subst h1
    replace hf := g_o2 hf; obtain ⟨h1, hf⟩ := hf; subst h1
    replace hf := g_o2 hf; obtain ⟨h1, hf⟩ := hf; subst h1
    replace hf := g_o2 hf; obtain ⟨h1, hf⟩ := hf; subst h1
    replace hf := Option.some.inj hf; subst hf
    exact g_iret C d_OL_back_9 () rfl
def y_OL_undo : MethodName := ⟨"OneLamp", "undo", "()I"⟩
theorem yy_OL_undo : YV y_OL_undo prog_1_method_25_code 1 (some .int) 0 := ⟨mw_3_225, mw_1_1, mw_3_223, mw_3_224, by decide +kernel, by decide +kernel, by decide +kernel⟩
theorem d_OL_undo_0 : decode prog_1_method_25_code 0 = .ok (.aload_n 0, 1) := by decide +kernel
theorem d_OL_undo_1 : decode prog_1_method_25_code 1 = .ok (.getfield 36, 3) := by decide +kernel
theorem d_OL_undo_4 : decode prog_1_method_25_code 4 = .ok (.invokevirtual 230, 3) := by decide +kernel
theorem d_OL_undo_7 : decode prog_1_method_25_code 7 = .ok (.ifCond .eq 13, 3) := by decide +kernel
theorem d_OL_undo_10 : decode prog_1_method_25_code 10 = .ok (.aload_n 0, 1) := by decide +kernel
theorem d_OL_undo_11 : decode prog_1_method_25_code 11 = .ok (.getfield 36, 3) := by decide +kernel
theorem d_OL_undo_14 : decode prog_1_method_25_code 14 = .ok (.getfield 233, 3) := by decide +kernel
theorem d_OL_undo_17 : decode prog_1_method_25_code 17 = .ok (.goto 5, 3) := by decide +kernel
theorem d_OL_undo_20 : decode prog_1_method_25_code 20 = .ok (.bipush (-5), 2) := by decide +kernel
theorem d_OL_undo_22 : decode prog_1_method_25_code 22 = .ok (.ireturn, 1) := by decide +kernel
def f_OL_undo  (x_o_costs_done : Int32) (x_o_costs_undone : Int32) (x_o_costs_lamps : Nat → Int32) (x_o_costs_before : Nat → Int32) (x_o_costs_prices : Nat → Int32) : Option (Int32 × Int32 × Int32 × (Nat → Int32)) :=
  (f_Co_takeBack  x_o_costs_done x_o_costs_undone x_o_costs_lamps x_o_costs_before x_o_costs_prices).bind fun (r1, u2, u3, u4) =>
  if r1 = true then
    (some (u2, u2, u3, u4))
  else
    (some ((-5 : Int32), u2, u3, u4))
set_option maxRecDepth 20000 in
theorem c_OL_undo {l : Launch} {D : va_G} {dA : Nat → ClassId} {a_o a_o_wall a_o_imageOfWall a_o_rules a_o_tape a_o_costs a_o_thought a_o_acts a_o_shelves a_o_costs_prices a_o_costs_lamps a_o_costs_before a_o_costs_after a_o_costs_sorted : Nat} {x_o_imageIsKept : Bool} {x_o_costs_done : Int32} {x_o_costs_undone : Int32} {x_o_costs_lamps : Nat → Int32} {x_o_costs_before : Nat → Int32} {x_o_costs_prices : Nat → Int32} {r0 : Int32} {o_x_o_costs_done : Int32} {o_x_o_costs_undone : Int32} {o_x_o_costs_prices : Nat → Int32}   (hf : f_OL_undo  x_o_costs_done x_o_costs_undone x_o_costs_lamps x_o_costs_before x_o_costs_prices = some (r0, o_x_o_costs_done, o_x_o_costs_undone, o_x_o_costs_prices)) : CT l y_OL_undo prog_1_method_25_code 1 (some .int) { frames := 2, cells := 0, slots := 0, locals := 42 } D dA [.ref a_o] [O_OL a_o a_o_wall a_o_imageOfWall x_o_imageIsKept a_o_rules a_o_tape a_o_costs a_o_thought a_o_acts a_o_shelves, O_Co a_o_costs a_o_costs_prices a_o_costs_lamps a_o_costs_before a_o_costs_after a_o_costs_sorted x_o_costs_done x_o_costs_undone, A_I dA a_o_costs_lamps 40 x_o_costs_lamps, A_I dA a_o_costs_before 40 x_o_costs_before, A_I dA a_o_costs_prices 10 x_o_costs_prices] (some (.int r0)) (fun _ : Unit => [O_OL a_o a_o_wall a_o_imageOfWall x_o_imageIsKept a_o_rules a_o_tape a_o_costs a_o_thought a_o_acts a_o_shelves, O_Co a_o_costs a_o_costs_prices a_o_costs_lamps a_o_costs_before a_o_costs_after a_o_costs_sorted o_x_o_costs_done o_x_o_costs_undone, A_I dA a_o_costs_lamps 40 x_o_costs_lamps, A_I dA a_o_costs_before 40 x_o_costs_before, A_I dA a_o_costs_prices 10 o_x_o_costs_prices]) := by
  refine ct_intro "OneLamp" rfl (by decide +kernel) (Nat.le_of_ble_eq_true rfl) [(0, .ref a_o)] rfl (fun _ C => ?_)
  unfold f_OL_undo at hf
  refine g_aload_n (pc' := 1) C 0 d_OL_undo_0 rfl rfl ?_
  refine g_get (pc' := 4) C kf_OL 5 mw_2_49 d_OL_undo_1 rfl 0 rfl (by decide) rfl ?_
  replace hf := g_bi hf; obtain ⟨⟨r1, u2, u3, u4⟩, hc5, hf⟩ := hf
  dsimp only at hf
  refine g_callV (pc' := 7) (st1 := [.int (b2i r1)]) (ws1 := [O_OL a_o a_o_wall a_o_imageOfWall x_o_imageIsKept a_o_rules a_o_tape a_o_costs a_o_thought a_o_acts a_o_shelves, O_Co a_o_costs a_o_costs_prices a_o_costs_lamps a_o_costs_before a_o_costs_after a_o_costs_sorted u2 u3, A_I dA a_o_costs_lamps 40 x_o_costs_lamps, A_I dA a_o_costs_before 40 x_o_costs_before, A_I dA a_o_costs_prices 10 u4]) C (c_Co_takeBack (l := l) (D := D) (dA := dA) (a_o := a_o_costs) (a_o_prices := a_o_costs_prices) (a_o_lamps := a_o_costs_lamps) (a_o_before := a_o_costs_before) (a_o_after := a_o_costs_after) (a_o_sorted := a_o_costs_sorted)   hc5) yy_Co_takeBack kf_Co rfl mw_3_226 d_OL_undo_4 rfl [] rfl rfl (Nat.le_of_ble_eq_true rfl) ⟨Nat.le_of_ble_eq_true rfl, Nat.le_of_ble_eq_true rfl⟩ rfl rfl (Nat.zero_le _) (Nat.zero_le _) 1 rfl [1, 2, 3, 4] rfl (by decide +kernel) rfl (g_lay_sel _ _ _ _ [(0, false), (0, true), (1, true), (2, true), (3, true)] (by decide +kernel) rfl (by decide +kernel) rfl rfl) rfl ?_
  refine g_if_eqb (pc' := 10) (tgt := 20) C d_OL_undo_7 rfl rfl (fun h => ?_) (fun h => ?_)
  · replace hf := g_bf h hf
    refine g_bipush (pc' := 22) (v := (-5)) C d_OL_undo_20 rfl rfl ?_
    replace hf := g_o2 hf; obtain ⟨h1, hf⟩ := hf; subst h1
    replace hf := g_o2 hf; obtain ⟨h1, hf⟩ := hf; subst h1
    replace hf := g_o2 hf; obtain ⟨h1, hf⟩ := hf; subst h1
    replace hf := Option.some.inj hf; subst hf
    exact g_iret C d_OL_undo_22 () rfl
  · replace hf := g_bt h hf
    refine g_aload_n (pc' := 11) C 0 d_OL_undo_10 rfl rfl ?_
    refine g_get (pc' := 14) C kf_OL 5 mw_2_49 d_OL_undo_11 rfl 0 rfl (by decide) rfl ?_
    refine g_get (pc' := 17) C kf_Co 5 mw_1_189 d_OL_undo_14 rfl 1 rfl (by decide) rfl ?_
    refine g_goto (tgt := 22) C d_OL_undo_17 rfl ?_
    replace hf := g_o2 hf; obtain ⟨h1, hf⟩ := hf; subst h1
    replace hf := g_o2 hf; obtain ⟨h1, hf⟩ := hf; subst h1
    replace hf := g_o2 hf; obtain ⟨h1, hf⟩ := hf; subst h1
    replace hf := Option.some.inj hf; subst hf
    exact g_iret C d_OL_undo_22 () rfl
def y_OL_redo : MethodName := ⟨"OneLamp", "redo", "()I"⟩
theorem yy_OL_redo : YV y_OL_redo prog_1_method_26_code 1 (some .int) 0 := ⟨mw_3_233, mw_1_1, mw_3_231, mw_3_232, by decide +kernel, by decide +kernel, by decide +kernel⟩
theorem d_OL_redo_0 : decode prog_1_method_26_code 0 = .ok (.aload_n 0, 1) := by decide +kernel
theorem d_OL_redo_1 : decode prog_1_method_26_code 1 = .ok (.getfield 36, 3) := by decide +kernel
theorem d_OL_redo_4 : decode prog_1_method_26_code 4 = .ok (.invokevirtual 236, 3) := by decide +kernel
theorem d_OL_redo_7 : decode prog_1_method_26_code 7 = .ok (.ifCond .eq 13, 3) := by decide +kernel
theorem d_OL_redo_10 : decode prog_1_method_26_code 10 = .ok (.aload_n 0, 1) := by decide +kernel
theorem d_OL_redo_11 : decode prog_1_method_26_code 11 = .ok (.getfield 36, 3) := by decide +kernel
theorem d_OL_redo_14 : decode prog_1_method_26_code 14 = .ok (.getfield 239, 3) := by decide +kernel
theorem d_OL_redo_17 : decode prog_1_method_26_code 17 = .ok (.goto 5, 3) := by decide +kernel
theorem d_OL_redo_20 : decode prog_1_method_26_code 20 = .ok (.bipush (-5), 2) := by decide +kernel
theorem d_OL_redo_22 : decode prog_1_method_26_code 22 = .ok (.ireturn, 1) := by decide +kernel
def f_OL_redo  (x_o_costs_done : Int32) (x_o_costs_undone : Int32) (x_o_costs_lamps : Nat → Int32) (x_o_costs_after : Nat → Int32) (x_o_costs_prices : Nat → Int32) : Option (Int32 × Int32 × Int32 × (Nat → Int32)) :=
  (f_Co_doAgain  x_o_costs_done x_o_costs_undone x_o_costs_lamps x_o_costs_after x_o_costs_prices).bind fun (r1, u2, u3, u4) =>
  if r1 = true then
    (some (u3, u2, u3, u4))
  else
    (some ((-5 : Int32), u2, u3, u4))
set_option maxRecDepth 20000 in
theorem c_OL_redo {l : Launch} {D : va_G} {dA : Nat → ClassId} {a_o a_o_wall a_o_imageOfWall a_o_rules a_o_tape a_o_costs a_o_thought a_o_acts a_o_shelves a_o_costs_prices a_o_costs_lamps a_o_costs_before a_o_costs_after a_o_costs_sorted : Nat} {x_o_imageIsKept : Bool} {x_o_costs_done : Int32} {x_o_costs_undone : Int32} {x_o_costs_lamps : Nat → Int32} {x_o_costs_after : Nat → Int32} {x_o_costs_prices : Nat → Int32} {r0 : Int32} {o_x_o_costs_done : Int32} {o_x_o_costs_undone : Int32} {o_x_o_costs_prices : Nat → Int32}   (hf : f_OL_redo  x_o_costs_done x_o_costs_undone x_o_costs_lamps x_o_costs_after x_o_costs_prices = some (r0, o_x_o_costs_done, o_x_o_costs_undone, o_x_o_costs_prices)) : CT l y_OL_redo prog_1_method_26_code 1 (some .int) { frames := 2, cells := 0, slots := 0, locals := 42 } D dA [.ref a_o] [O_OL a_o a_o_wall a_o_imageOfWall x_o_imageIsKept a_o_rules a_o_tape a_o_costs a_o_thought a_o_acts a_o_shelves, O_Co a_o_costs a_o_costs_prices a_o_costs_lamps a_o_costs_before a_o_costs_after a_o_costs_sorted x_o_costs_done x_o_costs_undone, A_I dA a_o_costs_lamps 40 x_o_costs_lamps, A_I dA a_o_costs_after 40 x_o_costs_after, A_I dA a_o_costs_prices 10 x_o_costs_prices] (some (.int r0)) (fun _ : Unit => [O_OL a_o a_o_wall a_o_imageOfWall x_o_imageIsKept a_o_rules a_o_tape a_o_costs a_o_thought a_o_acts a_o_shelves, O_Co a_o_costs a_o_costs_prices a_o_costs_lamps a_o_costs_before a_o_costs_after a_o_costs_sorted o_x_o_costs_done o_x_o_costs_undone, A_I dA a_o_costs_lamps 40 x_o_costs_lamps, A_I dA a_o_costs_after 40 x_o_costs_after, A_I dA a_o_costs_prices 10 o_x_o_costs_prices]) := by
  refine ct_intro "OneLamp" rfl (by decide +kernel) (Nat.le_of_ble_eq_true rfl) [(0, .ref a_o)] rfl (fun _ C => ?_)
  unfold f_OL_redo at hf
  refine g_aload_n (pc' := 1) C 0 d_OL_redo_0 rfl rfl ?_
  refine g_get (pc' := 4) C kf_OL 5 mw_2_49 d_OL_redo_1 rfl 0 rfl (by decide) rfl ?_
  replace hf := g_bi hf; obtain ⟨⟨r1, u2, u3, u4⟩, hc5, hf⟩ := hf
  dsimp only at hf
  refine g_callV (pc' := 7) (st1 := [.int (b2i r1)]) (ws1 := [O_OL a_o a_o_wall a_o_imageOfWall x_o_imageIsKept a_o_rules a_o_tape a_o_costs a_o_thought a_o_acts a_o_shelves, O_Co a_o_costs a_o_costs_prices a_o_costs_lamps a_o_costs_before a_o_costs_after a_o_costs_sorted u2 u3, A_I dA a_o_costs_lamps 40 x_o_costs_lamps, A_I dA a_o_costs_after 40 x_o_costs_after, A_I dA a_o_costs_prices 10 u4]) C (c_Co_doAgain (l := l) (D := D) (dA := dA) (a_o := a_o_costs) (a_o_prices := a_o_costs_prices) (a_o_lamps := a_o_costs_lamps) (a_o_before := a_o_costs_before) (a_o_after := a_o_costs_after) (a_o_sorted := a_o_costs_sorted)   hc5) yy_Co_doAgain kf_Co rfl mw_3_234 d_OL_redo_4 rfl [] rfl rfl (Nat.le_of_ble_eq_true rfl) ⟨Nat.le_of_ble_eq_true rfl, Nat.le_of_ble_eq_true rfl⟩ rfl rfl (Nat.zero_le _) (Nat.zero_le _) 1 rfl [1, 2, 3, 4] rfl (by decide +kernel) rfl (g_lay_sel _ _ _ _ [(0, false), (0, true), (1, true), (2, true), (3, true)] (by decide +kernel) rfl (by decide +kernel) rfl rfl) rfl ?_
  refine g_if_eqb (pc' := 10) (tgt := 20) C d_OL_redo_7 rfl rfl (fun h => ?_) (fun h => ?_)
  · replace hf := g_bf h hf
    refine g_bipush (pc' := 22) (v := (-5)) C d_OL_redo_20 rfl rfl ?_
    replace hf := g_o2 hf; obtain ⟨h1, hf⟩ := hf; subst h1
    replace hf := g_o2 hf; obtain ⟨h1, hf⟩ := hf; subst h1
    replace hf := g_o2 hf; obtain ⟨h1, hf⟩ := hf; subst h1
    replace hf := Option.some.inj hf; subst hf
    exact g_iret C d_OL_redo_22 () rfl
  · replace hf := g_bt h hf
    refine g_aload_n (pc' := 11) C 0 d_OL_redo_10 rfl rfl ?_
    refine g_get (pc' := 14) C kf_OL 5 mw_2_49 d_OL_redo_11 rfl 0 rfl (by decide) rfl ?_
    refine g_get (pc' := 17) C kf_Co 6 mw_1_191 d_OL_redo_14 rfl 1 rfl (by decide) rfl ?_
    refine g_goto (tgt := 22) C d_OL_redo_17 rfl ?_
    replace hf := g_o2 hf; obtain ⟨h1, hf⟩ := hf; subst h1
    replace hf := g_o2 hf; obtain ⟨h1, hf⟩ := hf; subst h1
    replace hf := g_o2 hf; obtain ⟨h1, hf⟩ := hf; subst h1
    replace hf := Option.some.inj hf; subst hf
    exact g_iret C d_OL_redo_22 () rfl
def y_OL_body : MethodName := ⟨"OneLamp", "body", "(I)I"⟩
theorem yy_OL_body : YV y_OL_body prog_1_method_27_code 2 (some .int) 1 := ⟨mw_4_1, mw_1_1, mw_3_239, mw_4_0, by decide +kernel, by decide +kernel, by decide +kernel⟩
theorem d_OL_body_0 : decode prog_1_method_27_code 0 = .ok (.iload_n 1, 1) := by decide +kernel
theorem d_OL_body_1 : decode prog_1_method_27_code 1 = .ok (.invokestatic 242, 3) := by decide +kernel
theorem d_OL_body_4 : decode prog_1_method_27_code 4 = .ok (.ifCond .ne 5, 3) := by decide +kernel
theorem d_OL_body_7 : decode prog_1_method_27_code 7 = .ok (.iconst (-1), 1) := by decide +kernel
theorem d_OL_body_8 : decode prog_1_method_27_code 8 = .ok (.ireturn, 1) := by decide +kernel
theorem d_OL_body_9 : decode prog_1_method_27_code 9 = .ok (.aload_n 0, 1) := by decide +kernel
theorem d_OL_body_10 : decode prog_1_method_27_code 10 = .ok (.getfield 50, 3) := by decide +kernel
theorem d_OL_body_13 : decode prog_1_method_27_code 13 = .ok (.iload_n 1, 1) := by decide +kernel
theorem d_OL_body_14 : decode prog_1_method_27_code 14 = .ok (.invokevirtual 245, 3) := by decide +kernel
theorem d_OL_body_17 : decode prog_1_method_27_code 17 = .ok (.ifCond .eq 15, 3) := by decide +kernel
theorem d_OL_body_20 : decode prog_1_method_27_code 20 = .ok (.aload_n 0, 1) := by decide +kernel
theorem d_OL_body_21 : decode prog_1_method_27_code 21 = .ok (.getfield 50, 3) := by decide +kernel
theorem d_OL_body_24 : decode prog_1_method_27_code 24 = .ok (.getfield 246, 3) := by decide +kernel
theorem d_OL_body_27 : decode prog_1_method_27_code 27 = .ok (.iconst 1, 1) := by decide +kernel
theorem d_OL_body_28 : decode prog_1_method_27_code 28 = .ok (.isub, 1) := by decide +kernel
theorem d_OL_body_29 : decode prog_1_method_27_code 29 = .ok (.goto 5, 3) := by decide +kernel
theorem d_OL_body_32 : decode prog_1_method_27_code 32 = .ok (.bipush (-3), 2) := by decide +kernel
theorem d_OL_body_34 : decode prog_1_method_27_code 34 = .ok (.ireturn, 1) := by decide +kernel
def f_OL_body  (p1 : Int32) (x_o_acts_bodies : Int32) (x_o_acts_kinds : Nat → Int32) : Option (Int32 × Int32 × (Nat → Int32)) :=
  (f_Ac_isKind  p1).bind fun r1 =>
  if r1 = true then
    ((f_Ac_add  p1 x_o_acts_bodies x_o_acts_kinds).bind fun (r3, u4, u5) =>
    if r3 = true then
      (some ((u4 - (1 : Int32)), u4, u5))
    else
      (some ((-3 : Int32), u4, u5)))
  else
    (some ((-1 : Int32), x_o_acts_bodies, x_o_acts_kinds))
set_option maxRecDepth 20000 in
theorem c_OL_body {l : Launch} {D : va_G} {dA : Nat → ClassId} {a_o a_o_wall a_o_imageOfWall a_o_rules a_o_tape a_o_costs a_o_thought a_o_acts a_o_shelves a_o_acts_kinds a_o_acts_trace : Nat} {x_o_imageIsKept : Bool} {x_o_acts_ran : Int32} {x_o_acts_number : Int32} {p1 : Int32} {x_o_acts_bodies : Int32} {x_o_acts_kinds : Nat → Int32} {r0 : Int32} {o_x_o_acts_bodies : Int32} {o_x_o_acts_kinds : Nat → Int32}   (hf : f_OL_body  p1 x_o_acts_bodies x_o_acts_kinds = some (r0, o_x_o_acts_bodies, o_x_o_acts_kinds)) : CT l y_OL_body prog_1_method_27_code 2 (some .int) { frames := 1, cells := 0, slots := 0, locals := 21 } D dA [.ref a_o, .int p1] [O_OL a_o a_o_wall a_o_imageOfWall x_o_imageIsKept a_o_rules a_o_tape a_o_costs a_o_thought a_o_acts a_o_shelves, O_Ac a_o_acts a_o_acts_kinds x_o_acts_bodies a_o_acts_trace x_o_acts_ran x_o_acts_number, A_I dA a_o_acts_kinds 50 x_o_acts_kinds] (some (.int r0)) (fun _ : Unit => [O_OL a_o a_o_wall a_o_imageOfWall x_o_imageIsKept a_o_rules a_o_tape a_o_costs a_o_thought a_o_acts a_o_shelves, O_Ac a_o_acts a_o_acts_kinds o_x_o_acts_bodies a_o_acts_trace x_o_acts_ran x_o_acts_number, A_I dA a_o_acts_kinds 50 o_x_o_acts_kinds]) := by
  refine ct_intro "OneLamp" rfl (by decide +kernel) (Nat.le_of_ble_eq_true rfl) [(0, .ref a_o), (1, .int p1)] rfl (fun _ C => ?_)
  unfold f_OL_body at hf
  refine g_iload_n (pc' := 1) C 1 d_OL_body_0 rfl rfl ?_
  replace hf := g_bi hf; obtain ⟨r1, hc2, hf⟩ := hf
  refine g_callS (pc' := 4) (st1 := [.int (b2i r1)]) (ws1 := [O_OL a_o a_o_wall a_o_imageOfWall x_o_imageIsKept a_o_rules a_o_tape a_o_costs a_o_thought a_o_acts a_o_shelves, O_Ac a_o_acts a_o_acts_kinds x_o_acts_bodies a_o_acts_trace x_o_acts_ran x_o_acts_number, A_I dA a_o_acts_kinds 50 x_o_acts_kinds]) C (c_Ac_isKind (l := l) (D := D) (dA := dA)    hc2) yy_Ac_isKind mw_4_2 d_OL_body_1 rfl [] rfl rfl (Nat.le_of_ble_eq_true rfl) ⟨Nat.le_of_ble_eq_true rfl, Nat.le_of_ble_eq_true rfl⟩ rfl rfl (Nat.zero_le _) (Nat.zero_le _) [] rfl (by decide +kernel) rfl (g_lay_sel _ _ _ _ [(0, false), (1, false), (2, false)] (by decide +kernel) rfl (by decide +kernel) rfl rfl) rfl ?_
  refine g_if_neb (pc' := 7) (tgt := 9) C d_OL_body_4 rfl rfl (fun h => ?_) (fun h => ?_)
  · replace hf := g_bt h hf
    refine g_aload_n (pc' := 10) C 0 d_OL_body_9 rfl rfl ?_
    refine g_get (pc' := 13) C kf_OL 7 mw_2_51 d_OL_body_10 rfl 0 rfl (by decide) rfl ?_
    refine g_iload_n (pc' := 14) C 1 d_OL_body_13 rfl rfl ?_
    replace hf := g_bi hf; obtain ⟨⟨r3, u4, u5⟩, hc6, hf⟩ := hf
    dsimp only at hf
    refine g_callV (pc' := 17) (st1 := [.int (b2i r3)]) (ws1 := [O_OL a_o a_o_wall a_o_imageOfWall x_o_imageIsKept a_o_rules a_o_tape a_o_costs a_o_thought a_o_acts a_o_shelves, O_Ac a_o_acts a_o_acts_kinds u4 a_o_acts_trace x_o_acts_ran x_o_acts_number, A_I dA a_o_acts_kinds 50 u5]) C (c_Ac_add (l := l) (D := D) (dA := dA) (a_o := a_o_acts) (a_o_kinds := a_o_acts_kinds) (a_o_trace := a_o_acts_trace) (x_o_ran := x_o_acts_ran) (x_o_number := x_o_acts_number)   hc6) yy_Ac_add kf_Ac rfl mw_4_5 d_OL_body_14 rfl [] rfl rfl (Nat.le_of_ble_eq_true rfl) ⟨Nat.le_of_ble_eq_true rfl, Nat.le_of_ble_eq_true rfl⟩ rfl rfl (Nat.zero_le _) (Nat.zero_le _) 1 rfl [1, 2] rfl (by decide +kernel) rfl (g_lay_sel _ _ _ _ [(0, false), (0, true), (1, true)] (by decide +kernel) rfl (by decide +kernel) rfl rfl) rfl ?_
    refine g_if_eqb (pc' := 20) (tgt := 32) C d_OL_body_17 rfl rfl (fun h => ?_) (fun h => ?_)
    · replace hf := g_bf h hf
      refine g_bipush (pc' := 34) (v := (-3)) C d_OL_body_32 rfl rfl ?_
      replace hf := g_o2 hf; obtain ⟨h1, hf⟩ := hf; subst h1
      replace hf := g_o2 hf; obtain ⟨h1, hf⟩ := hf; subst h1
      replace hf := Option.some.inj hf; subst hf
      exact g_iret C d_OL_body_34 () rfl
    · replace hf := g_bt h hf
      refine g_aload_n (pc' := 21) C 0 d_OL_body_20 rfl rfl ?_
      refine g_get (pc' := 24) C kf_OL 7 mw_2_51 d_OL_body_21 rfl 0 rfl (by decide) rfl ?_
      refine g_get (pc' := 27) C kf_Ac 1 mw_2_2 d_OL_body_24 rfl 1 rfl (by decide) rfl ?_
      refine g_iconst (pc' := 28) (v := 1) C d_OL_body_27 rfl rfl ?_
      refine g_isub (pc' := 29) C d_OL_body_28 rfl ?_
      refine g_goto (tgt := 34) C d_OL_body_29 rfl ?_
      replace hf := g_o2 hf; obtain ⟨h1, hf⟩ := hf; subst h1
      replace hf := g_o2 hf; obtain ⟨h1, hf⟩ := hf; subst h1
      replace hf := Option.some.inj hf; subst hf
      exact g_iret C d_OL_body_34 () rfl
  · replace hf := g_bf h hf
    refine g_iconst (pc' := 8) (v := (-1)) C d_OL_body_7 rfl rfl ?_
    replace hf := g_o2 hf; obtain ⟨h1, hf⟩ := hf; subst h1
    replace hf := g_o2 hf; obtain ⟨h1, hf⟩ := hf; subst h1
    replace hf := Option.some.inj hf; subst hf
    exact g_iret C d_OL_body_8 () rfl
def y_OL_act : MethodName := ⟨"OneLamp", "act", "(III)I"⟩
theorem yy_OL_act : YV y_OL_act prog_1_method_28_code 4 (some .int) 3 := ⟨mw_4_12, mw_1_1, mw_4_10, mw_4_11, by decide +kernel, by decide +kernel, by decide +kernel⟩
theorem d_OL_act_0 : decode prog_1_method_28_code 0 = .ok (.aload_n 0, 1) := by decide +kernel
theorem d_OL_act_1 : decode prog_1_method_28_code 1 = .ok (.getfield 50, 3) := by decide +kernel
theorem d_OL_act_4 : decode prog_1_method_28_code 4 = .ok (.iload_n 1, 1) := by decide +kernel
theorem d_OL_act_5 : decode prog_1_method_28_code 5 = .ok (.iload_n 2, 1) := by decide +kernel
theorem d_OL_act_6 : decode prog_1_method_28_code 6 = .ok (.iload_n 3, 1) := by decide +kernel
theorem d_OL_act_7 : decode prog_1_method_28_code 7 = .ok (.invokevirtual 249, 3) := by decide +kernel
theorem d_OL_act_10 : decode prog_1_method_28_code 10 = .ok (.ireturn, 1) := by decide +kernel
def f_OL_act  (p1 : Int32) (p2 : Int32) (p3 : Int32) (x_o_acts_bodies : Int32) (x_o_acts_ran : Int32) (x_o_acts_number : Int32) (x_o_acts_kinds : Nat → Int32) (x_o_acts_trace : Nat → Int32) : Option (Int32 × Int32 × Int32 × (Nat → Int32)) :=
  (f_Ac_perform  p1 p2 p3 x_o_acts_bodies x_o_acts_ran x_o_acts_number x_o_acts_kinds x_o_acts_trace).bind fun (r1, u2, u3, u4) =>
  some (r1, u2, u3, u4)
set_option maxRecDepth 20000 in
theorem c_OL_act {l : Launch} {D : va_G} {dA : Nat → ClassId} {a_o a_o_wall a_o_imageOfWall a_o_rules a_o_tape a_o_costs a_o_thought a_o_acts a_o_shelves a_o_acts_kinds a_o_acts_trace : Nat} {x_o_imageIsKept : Bool} {p1 : Int32} {p2 : Int32} {p3 : Int32} {x_o_acts_bodies : Int32} {x_o_acts_ran : Int32} {x_o_acts_number : Int32} {x_o_acts_kinds : Nat → Int32} {x_o_acts_trace : Nat → Int32} {r0 : Int32} {o_x_o_acts_ran : Int32} {o_x_o_acts_number : Int32} {o_x_o_acts_trace : Nat → Int32}   (hf : f_OL_act  p1 p2 p3 x_o_acts_bodies x_o_acts_ran x_o_acts_number x_o_acts_kinds x_o_acts_trace = some (r0, o_x_o_acts_ran, o_x_o_acts_number, o_x_o_acts_trace)) : CT l y_OL_act prog_1_method_28_code 4 (some .int) { frames := 38, cells := 0, slots := 0, locals := 832 } D dA [.ref a_o, .int p1, .int p2, .int p3] [O_OL a_o a_o_wall a_o_imageOfWall x_o_imageIsKept a_o_rules a_o_tape a_o_costs a_o_thought a_o_acts a_o_shelves, O_Ac a_o_acts a_o_acts_kinds x_o_acts_bodies a_o_acts_trace x_o_acts_ran x_o_acts_number, A_I dA a_o_acts_kinds 50 x_o_acts_kinds, A_I dA a_o_acts_trace 24 x_o_acts_trace] (some (.int r0)) (fun _ : Unit => [O_OL a_o a_o_wall a_o_imageOfWall x_o_imageIsKept a_o_rules a_o_tape a_o_costs a_o_thought a_o_acts a_o_shelves, O_Ac a_o_acts a_o_acts_kinds x_o_acts_bodies a_o_acts_trace o_x_o_acts_ran o_x_o_acts_number, A_I dA a_o_acts_kinds 50 x_o_acts_kinds, A_I dA a_o_acts_trace 24 o_x_o_acts_trace]) := by
  refine ct_intro "OneLamp" rfl (by decide +kernel) (Nat.le_of_ble_eq_true rfl) [(0, .ref a_o), (1, .int p1), (2, .int p2), (3, .int p3)] rfl (fun _ C => ?_)
  unfold f_OL_act at hf
  refine g_aload_n (pc' := 1) C 0 d_OL_act_0 rfl rfl ?_
  refine g_get (pc' := 4) C kf_OL 7 mw_2_51 d_OL_act_1 rfl 0 rfl (by decide) rfl ?_
  refine g_iload_n (pc' := 5) C 1 d_OL_act_4 rfl rfl ?_
  refine g_iload_n (pc' := 6) C 2 d_OL_act_5 rfl rfl ?_
  refine g_iload_n (pc' := 7) C 3 d_OL_act_6 rfl rfl ?_
  replace hf := g_bi hf; obtain ⟨⟨r1, u2, u3, u4⟩, hc5, hf⟩ := hf
  dsimp only at hf
  refine g_callV (pc' := 10) (st1 := [.int r1]) (ws1 := [O_OL a_o a_o_wall a_o_imageOfWall x_o_imageIsKept a_o_rules a_o_tape a_o_costs a_o_thought a_o_acts a_o_shelves, O_Ac a_o_acts a_o_acts_kinds x_o_acts_bodies a_o_acts_trace u2 u3, A_I dA a_o_acts_kinds 50 x_o_acts_kinds, A_I dA a_o_acts_trace 24 u4]) C (c_Ac_perform (l := l) (D := D) (dA := dA) (a_o := a_o_acts) (a_o_kinds := a_o_acts_kinds) (a_o_trace := a_o_acts_trace)   hc5) yy_Ac_perform kf_Ac rfl mw_4_13 d_OL_act_7 rfl [] rfl rfl (Nat.le_of_ble_eq_true rfl) ⟨Nat.le_of_ble_eq_true rfl, Nat.le_of_ble_eq_true rfl⟩ rfl rfl (Nat.zero_le _) (Nat.zero_le _) 1 rfl [1, 2, 3] rfl (by decide +kernel) rfl (g_lay_sel _ _ _ _ [(0, false), (0, true), (1, true), (2, true)] (by decide +kernel) rfl (by decide +kernel) rfl rfl) rfl ?_
  replace hf := g_o2 hf; obtain ⟨h1, hf⟩ := hf; subst h1
  replace hf := g_o2 hf; obtain ⟨h1, hf⟩ := hf; subst h1
  replace hf := g_o2 hf; obtain ⟨h1, hf⟩ := hf; subst h1
  replace hf := Option.some.inj hf; subst hf
  exact g_iret C d_OL_act_10 () rfl
def y_OL_trace : MethodName := ⟨"OneLamp", "trace", "(I)I"⟩
theorem yy_OL_trace : YV y_OL_trace prog_1_method_29_code 2 (some .int) 1 := ⟨mw_4_46, mw_1_1, mw_4_44, mw_4_45, by decide +kernel, by decide +kernel, by decide +kernel⟩
theorem d_OL_trace_0 : decode prog_1_method_29_code 0 = .ok (.aload_n 0, 1) := by decide +kernel
theorem d_OL_trace_1 : decode prog_1_method_29_code 1 = .ok (.getfield 50, 3) := by decide +kernel
theorem d_OL_trace_4 : decode prog_1_method_29_code 4 = .ok (.iload_n 1, 1) := by decide +kernel
theorem d_OL_trace_5 : decode prog_1_method_29_code 5 = .ok (.invokevirtual 253, 3) := by decide +kernel
theorem d_OL_trace_8 : decode prog_1_method_29_code 8 = .ok (.ifCond .eq 14, 3) := by decide +kernel
theorem d_OL_trace_11 : decode prog_1_method_29_code 11 = .ok (.aload_n 0, 1) := by decide +kernel
theorem d_OL_trace_12 : decode prog_1_method_29_code 12 = .ok (.getfield 50, 3) := by decide +kernel
theorem d_OL_trace_15 : decode prog_1_method_29_code 15 = .ok (.iload_n 1, 1) := by decide +kernel
theorem d_OL_trace_16 : decode prog_1_method_29_code 16 = .ok (.invokevirtual 256, 3) := by decide +kernel
theorem d_OL_trace_19 : decode prog_1_method_29_code 19 = .ok (.goto 4, 3) := by decide +kernel
theorem d_OL_trace_22 : decode prog_1_method_29_code 22 = .ok (.iconst (-1), 1) := by decide +kernel
theorem d_OL_trace_23 : decode prog_1_method_29_code 23 = .ok (.ireturn, 1) := by decide +kernel
def f_OL_trace  (p1 : Int32) (x_o_acts_ran : Int32) (x_o_acts_trace : Nat → Int32) : Option (Int32) :=
  (f_Ac_isTraced  p1 x_o_acts_ran).bind fun r1 =>
  if r1 = true then
    ((f_Ac_traceAt  p1 x_o_acts_ran x_o_acts_trace).bind fun r3 =>
    some (r3))
  else
    (some ((-1 : Int32)))
set_option maxRecDepth 20000 in
theorem c_OL_trace {l : Launch} {D : va_G} {dA : Nat → ClassId} {a_o a_o_wall a_o_imageOfWall a_o_rules a_o_tape a_o_costs a_o_thought a_o_acts a_o_shelves a_o_acts_kinds a_o_acts_trace : Nat} {x_o_imageIsKept : Bool} {x_o_acts_bodies : Int32} {x_o_acts_number : Int32} {p1 : Int32} {x_o_acts_ran : Int32} {x_o_acts_trace : Nat → Int32} {r0 : Int32}   (hf : f_OL_trace  p1 x_o_acts_ran x_o_acts_trace = some r0) : CT l y_OL_trace prog_1_method_29_code 2 (some .int) { frames := 2, cells := 0, slots := 0, locals := 42 } D dA [.ref a_o, .int p1] [O_OL a_o a_o_wall a_o_imageOfWall x_o_imageIsKept a_o_rules a_o_tape a_o_costs a_o_thought a_o_acts a_o_shelves, O_Ac a_o_acts a_o_acts_kinds x_o_acts_bodies a_o_acts_trace x_o_acts_ran x_o_acts_number, A_I dA a_o_acts_trace 24 x_o_acts_trace] (some (.int r0)) (fun _ : Unit => [O_OL a_o a_o_wall a_o_imageOfWall x_o_imageIsKept a_o_rules a_o_tape a_o_costs a_o_thought a_o_acts a_o_shelves, O_Ac a_o_acts a_o_acts_kinds x_o_acts_bodies a_o_acts_trace x_o_acts_ran x_o_acts_number, A_I dA a_o_acts_trace 24 x_o_acts_trace]) := by
  refine ct_intro "OneLamp" rfl (by decide +kernel) (Nat.le_of_ble_eq_true rfl) [(0, .ref a_o), (1, .int p1)] rfl (fun _ C => ?_)
  unfold f_OL_trace at hf
  refine g_aload_n (pc' := 1) C 0 d_OL_trace_0 rfl rfl ?_
  refine g_get (pc' := 4) C kf_OL 7 mw_2_51 d_OL_trace_1 rfl 0 rfl (by decide) rfl ?_
  refine g_iload_n (pc' := 5) C 1 d_OL_trace_4 rfl rfl ?_
  replace hf := g_bi hf; obtain ⟨r1, hc2, hf⟩ := hf
  refine g_callV (pc' := 8) (st1 := [.int (b2i r1)]) (ws1 := [O_OL a_o a_o_wall a_o_imageOfWall x_o_imageIsKept a_o_rules a_o_tape a_o_costs a_o_thought a_o_acts a_o_shelves, O_Ac a_o_acts a_o_acts_kinds x_o_acts_bodies a_o_acts_trace x_o_acts_ran x_o_acts_number, A_I dA a_o_acts_trace 24 x_o_acts_trace]) C (c_Ac_isTraced (l := l) (D := D) (dA := dA) (a_o := a_o_acts) (a_o_kinds := a_o_acts_kinds) (a_o_trace := a_o_acts_trace) (x_o_bodies := x_o_acts_bodies) (x_o_number := x_o_acts_number)   hc2) yy_Ac_isTraced kf_Ac rfl mw_4_47 d_OL_trace_5 rfl [] rfl rfl (Nat.le_of_ble_eq_true rfl) ⟨Nat.le_of_ble_eq_true rfl, Nat.le_of_ble_eq_true rfl⟩ rfl rfl (Nat.zero_le _) (Nat.zero_le _) 1 rfl [1] rfl (by decide +kernel) rfl (g_lay_sel _ _ _ _ [(0, false), (0, true), (2, false)] (by decide +kernel) rfl (by decide +kernel) rfl rfl) rfl ?_
  refine g_if_eqb (pc' := 11) (tgt := 22) C d_OL_trace_8 rfl rfl (fun h => ?_) (fun h => ?_)
  · replace hf := g_bf h hf
    refine g_iconst (pc' := 23) (v := (-1)) C d_OL_trace_22 rfl rfl ?_
    replace hf := Option.some.inj hf; subst hf
    exact g_iret C d_OL_trace_23 () rfl
  · replace hf := g_bt h hf
    refine g_aload_n (pc' := 12) C 0 d_OL_trace_11 rfl rfl ?_
    refine g_get (pc' := 15) C kf_OL 7 mw_2_51 d_OL_trace_12 rfl 0 rfl (by decide) rfl ?_
    refine g_iload_n (pc' := 16) C 1 d_OL_trace_15 rfl rfl ?_
    replace hf := g_bi hf; obtain ⟨r3, hc4, hf⟩ := hf
    refine g_callV (pc' := 19) (st1 := [.int r3]) (ws1 := [O_OL a_o a_o_wall a_o_imageOfWall x_o_imageIsKept a_o_rules a_o_tape a_o_costs a_o_thought a_o_acts a_o_shelves, O_Ac a_o_acts a_o_acts_kinds x_o_acts_bodies a_o_acts_trace x_o_acts_ran x_o_acts_number, A_I dA a_o_acts_trace 24 x_o_acts_trace]) C (c_Ac_traceAt (l := l) (D := D) (dA := dA) (a_o := a_o_acts) (a_o_kinds := a_o_acts_kinds) (a_o_trace := a_o_acts_trace) (x_o_bodies := x_o_acts_bodies) (x_o_number := x_o_acts_number)   hc4) yy_Ac_traceAt kf_Ac rfl mw_4_51 d_OL_trace_16 rfl [] rfl rfl (Nat.le_of_ble_eq_true rfl) ⟨Nat.le_of_ble_eq_true rfl, Nat.le_of_ble_eq_true rfl⟩ rfl rfl (Nat.zero_le _) (Nat.zero_le _) 1 rfl [1, 2] rfl (by decide +kernel) rfl (g_lay_sel _ _ _ _ [(0, false), (0, true), (1, true)] (by decide +kernel) rfl (by decide +kernel) rfl rfl) rfl ?_
    refine g_goto (tgt := 23) C d_OL_trace_19 rfl ?_
    replace hf := Option.some.inj hf; subst hf
    exact g_iret C d_OL_trace_23 () rfl
def y_OL_keep : MethodName := ⟨"OneLamp", "keep", "(II)I"⟩
theorem yy_OL_keep : YV y_OL_keep prog_1_method_30_code 3 (some .int) 2 := ⟨mw_4_59, mw_1_1, mw_4_57, mw_4_58, by decide +kernel, by decide +kernel, by decide +kernel⟩
theorem d_OL_keep_0 : decode prog_1_method_30_code 0 = .ok (.iload_n 1, 1) := by decide +kernel
theorem d_OL_keep_1 : decode prog_1_method_30_code 1 = .ok (.invokestatic 88, 3) := by decide +kernel
theorem d_OL_keep_4 : decode prog_1_method_30_code 4 = .ok (.ifCond .eq 19, 3) := by decide +kernel
theorem d_OL_keep_7 : decode prog_1_method_30_code 7 = .ok (.iload_n 2, 1) := by decide +kernel
theorem d_OL_keep_8 : decode prog_1_method_30_code 8 = .ok (.iconst (-1), 1) := by decide +kernel
theorem d_OL_keep_9 : decode prog_1_method_30_code 9 = .ok (.if_icmp .eq 16, 3) := by decide +kernel
theorem d_OL_keep_12 : decode prog_1_method_30_code 12 = .ok (.aload_n 0, 1) := by decide +kernel
theorem d_OL_keep_13 : decode prog_1_method_30_code 13 = .ok (.getfield 50, 3) := by decide +kernel
theorem d_OL_keep_16 : decode prog_1_method_30_code 16 = .ok (.iload_n 2, 1) := by decide +kernel
theorem d_OL_keep_17 : decode prog_1_method_30_code 17 = .ok (.invokevirtual 259, 3) := by decide +kernel
theorem d_OL_keep_20 : decode prog_1_method_30_code 20 = .ok (.ifCond .ne 5, 3) := by decide +kernel
theorem d_OL_keep_23 : decode prog_1_method_30_code 23 = .ok (.iconst (-1), 1) := by decide +kernel
theorem d_OL_keep_24 : decode prog_1_method_30_code 24 = .ok (.ireturn, 1) := by decide +kernel
theorem d_OL_keep_25 : decode prog_1_method_30_code 25 = .ok (.iload_n 2, 1) := by decide +kernel
theorem d_OL_keep_26 : decode prog_1_method_30_code 26 = .ok (.iconst (-1), 1) := by decide +kernel
theorem d_OL_keep_27 : decode prog_1_method_30_code 27 = .ok (.if_icmp .ne 15, 3) := by decide +kernel
theorem d_OL_keep_30 : decode prog_1_method_30_code 30 = .ok (.aload_n 0, 1) := by decide +kernel
theorem d_OL_keep_31 : decode prog_1_method_30_code 31 = .ok (.getfield 56, 3) := by decide +kernel
theorem d_OL_keep_34 : decode prog_1_method_30_code 34 = .ok (.iload_n 1, 1) := by decide +kernel
theorem d_OL_keep_35 : decode prog_1_method_30_code 35 = .ok (.aaload, 1) := by decide +kernel
theorem d_OL_keep_36 : decode prog_1_method_30_code 36 = .ok (.invokevirtual 262, 3) := by decide +kernel
theorem d_OL_keep_39 : decode prog_1_method_30_code 39 = .ok (.goto 13, 3) := by decide +kernel
theorem d_OL_keep_42 : decode prog_1_method_30_code 42 = .ok (.aload_n 0, 1) := by decide +kernel
theorem d_OL_keep_43 : decode prog_1_method_30_code 43 = .ok (.getfield 56, 3) := by decide +kernel
theorem d_OL_keep_46 : decode prog_1_method_30_code 46 = .ok (.iload_n 1, 1) := by decide +kernel
theorem d_OL_keep_47 : decode prog_1_method_30_code 47 = .ok (.aaload, 1) := by decide +kernel
theorem d_OL_keep_48 : decode prog_1_method_30_code 48 = .ok (.iload_n 2, 1) := by decide +kernel
theorem d_OL_keep_49 : decode prog_1_method_30_code 49 = .ok (.invokevirtual 265, 3) := by decide +kernel
theorem d_OL_keep_52 : decode prog_1_method_30_code 52 = .ok (.iconst 1, 1) := by decide +kernel
theorem d_OL_keep_53 : decode prog_1_method_30_code 53 = .ok (.ireturn, 1) := by decide +kernel
def f_OL_keep_L25   (p1 : Int32) (v2 : Int32) (x_o_shelves_ep1_holds : Int32) (x_o_shelves_ep1_body : Int32) : Option (Int32 × Int32 × Int32) :=
  if v2 = (-1 : Int32) then
    (if p1 < 0 ∨ 6 ≤ Int32.toNatClampNeg p1 then none else
    (f_Sh_holdNothing  x_o_shelves_ep1_holds).bind fun u4 =>
    some ((1 : Int32), u4, x_o_shelves_ep1_body))
  else
    (if p1 < 0 ∨ 6 ≤ Int32.toNatClampNeg p1 then none else
    (f_Sh_holdBody  v2 x_o_shelves_ep1_holds x_o_shelves_ep1_body).bind fun (u1, u2) =>
    some ((1 : Int32), u1, u2))
set_option maxRecDepth 20000 in
theorem w_OL_keep_L25 {p : Program} {l : Launch} {e : Env} {s : State} {m : MethodId} {args : Array Value} {below : List Frame} {meth : Method} {c : Code} {D : va_G} {dA : Nat → ClassId} {A : Nat → Prop} (C : GC p s m args meth c prog_1_method_30_code 3 "OneLamp" (some .int) D dA A) {a_o a_o_wall a_o_imageOfWall a_o_rules a_o_tape a_o_costs a_o_thought a_o_acts a_o_shelves a_o_acts_kinds a_o_acts_trace a_o_shelves_ep1 a_o_shelves_ep1_elements : Nat} {x_o_imageIsKept : Bool} {x_o_acts_bodies : Int32} {x_o_acts_ran : Int32} {x_o_acts_number : Int32} {x_o_shelves : Nat → Option Nat} {x_o_shelves_ep1_sort : Int32} {x_o_shelves_ep1_length : Int32} {p1 : Int32} {r0 : Int32} {o_x_o_shelves_ep1_holds : Int32} {o_x_o_shelves_ep1_body : Int32} (he_p1 : x_o_shelves (Int32.toNatClampNeg p1) = some a_o_shelves_ep1)   (v2 : Int32) (x_o_shelves_ep1_holds : Int32) (x_o_shelves_ep1_body : Int32) (hf : f_OL_keep_L25   p1 v2 x_o_shelves_ep1_holds x_o_shelves_ep1_body = some (r0, o_x_o_shelves_ep1_holds, o_x_o_shelves_ep1_body)) : GG p l e { frames := 1, cells := 0, slots := 0, locals := 21 } s m args below meth c 3 D A 0 0 (MQ below (cQ D A (some (.int r0)) (fun _ : Unit => [O_OL a_o a_o_wall a_o_imageOfWall x_o_imageIsKept a_o_rules a_o_tape a_o_costs a_o_thought a_o_acts a_o_shelves, O_Ac a_o_acts a_o_acts_kinds x_o_acts_bodies a_o_acts_trace x_o_acts_ran x_o_acts_number, A_Q dA a_o_shelves 6 x_o_shelves, O_Sh a_o_shelves_ep1 o_x_o_shelves_ep1_holds o_x_o_shelves_ep1_body x_o_shelves_ep1_sort x_o_shelves_ep1_length a_o_shelves_ep1_elements])) args s 0 0 A) 25 [(0, .ref a_o), (1, .int p1), (2, .int v2)] [] [O_OL a_o a_o_wall a_o_imageOfWall x_o_imageIsKept a_o_rules a_o_tape a_o_costs a_o_thought a_o_acts a_o_shelves, O_Ac a_o_acts a_o_acts_kinds x_o_acts_bodies a_o_acts_trace x_o_acts_ran x_o_acts_number, A_Q dA a_o_shelves 6 x_o_shelves, O_Sh a_o_shelves_ep1 x_o_shelves_ep1_holds x_o_shelves_ep1_body x_o_shelves_ep1_sort x_o_shelves_ep1_length a_o_shelves_ep1_elements] := by
  unfold f_OL_keep_L25 at hf
  refine g_iload_n (pc' := 26) C 2 d_OL_keep_25 rfl rfl ?_
  refine g_iconst (pc' := 27) (v := (-1)) C d_OL_keep_26 rfl rfl ?_
  refine g_icmp_ne (pc' := 30) (tgt := 42) C d_OL_keep_27 rfl rfl (fun h => ?_) (fun h => ?_)
  · replace hf := g_in h hf
    refine g_aload_n (pc' := 43) C 0 d_OL_keep_42 rfl rfl ?_
    refine g_get (pc' := 46) C kf_OL 8 mw_2_52 d_OL_keep_43 rfl 0 rfl (by decide) rfl ?_
    refine g_iload_n (pc' := 47) C 1 d_OL_keep_46 rfl rfl ?_
    have hb := g_ck hf
    replace hf := g_in hb hf
    refine g_aald (pc' := 48) C d_OL_keep_47 rfl 2 rfl hb he_p1 ?_
    refine g_iload_n (pc' := 49) C 2 d_OL_keep_48 rfl rfl ?_
    replace hf := g_bi hf; obtain ⟨⟨u1, u2⟩, hc3, hf⟩ := hf
    dsimp only at hf
    refine g_callV (pc' := 52) (st1 := []) (ws1 := [O_OL a_o a_o_wall a_o_imageOfWall x_o_imageIsKept a_o_rules a_o_tape a_o_costs a_o_thought a_o_acts a_o_shelves, O_Ac a_o_acts a_o_acts_kinds x_o_acts_bodies a_o_acts_trace x_o_acts_ran x_o_acts_number, A_Q dA a_o_shelves 6 x_o_shelves, O_Sh a_o_shelves_ep1 u1 u2 x_o_shelves_ep1_sort x_o_shelves_ep1_length a_o_shelves_ep1_elements]) C (c_Sh_holdBody (l := l) (D := D) (dA := dA) (a_o := a_o_shelves_ep1) (a_o_elements := a_o_shelves_ep1_elements) (x_o_sort := x_o_shelves_ep1_sort) (x_o_length := x_o_shelves_ep1_length)   hc3) yy_Sh_holdBody kf_Sh rfl mw_4_65 d_OL_keep_49 rfl [] rfl rfl (Nat.le_of_ble_eq_true rfl) ⟨Nat.le_of_ble_eq_true rfl, Nat.le_of_ble_eq_true rfl⟩ rfl rfl (Nat.zero_le _) (Nat.zero_le _) 3 rfl [3] rfl (by decide +kernel) rfl (g_lay_sel _ _ _ _ [(0, false), (1, false), (2, false), (0, true)] (by decide +kernel) rfl (by decide +kernel) rfl rfl) rfl ?_
    refine g_iconst (pc' := 53) (v := 1) C d_OL_keep_52 rfl rfl ?_
    replace hf := g_o2 hf; obtain ⟨h1, hf⟩ := hf; subst h1
    replace hf := g_o2 hf; obtain ⟨h1, hf⟩ := hf; subst h1
    replace hf := Option.some.inj hf; subst hf
    exact g_iret C d_OL_keep_53 () rfl
  · replace hf := g_ip h hf
    refine g_aload_n (pc' := 31) C 0 d_OL_keep_30 rfl rfl ?_
    refine g_get (pc' := 34) C kf_OL 8 mw_2_52 d_OL_keep_31 rfl 0 rfl (by decide) rfl ?_
    refine g_iload_n (pc' := 35) C 1 d_OL_keep_34 rfl rfl ?_
    have hb := g_ck hf
    replace hf := g_in hb hf
    refine g_aald (pc' := 36) C d_OL_keep_35 rfl 2 rfl hb he_p1 ?_
    replace hf := g_bi hf; obtain ⟨u4, hc5, hf⟩ := hf
    refine g_callV (pc' := 39) (st1 := []) (ws1 := [O_OL a_o a_o_wall a_o_imageOfWall x_o_imageIsKept a_o_rules a_o_tape a_o_costs a_o_thought a_o_acts a_o_shelves, O_Ac a_o_acts a_o_acts_kinds x_o_acts_bodies a_o_acts_trace x_o_acts_ran x_o_acts_number, A_Q dA a_o_shelves 6 x_o_shelves, O_Sh a_o_shelves_ep1 u4 x_o_shelves_ep1_body x_o_shelves_ep1_sort x_o_shelves_ep1_length a_o_shelves_ep1_elements]) C (c_Sh_holdNothing (l := l) (D := D) (dA := dA) (a_o := a_o_shelves_ep1) (a_o_elements := a_o_shelves_ep1_elements) (x_o_body := x_o_shelves_ep1_body) (x_o_sort := x_o_shelves_ep1_sort) (x_o_length := x_o_shelves_ep1_length)   hc5) yy_Sh_holdNothing kf_Sh rfl mw_4_61 d_OL_keep_36 rfl [] rfl rfl (Nat.le_of_ble_eq_true rfl) ⟨Nat.le_of_ble_eq_true rfl, Nat.le_of_ble_eq_true rfl⟩ rfl rfl (Nat.zero_le _) (Nat.zero_le _) 3 rfl [3] rfl (by decide +kernel) rfl (g_lay_sel _ _ _ _ [(0, false), (1, false), (2, false), (0, true)] (by decide +kernel) rfl (by decide +kernel) rfl rfl) rfl ?_
    refine g_goto (tgt := 52) C d_OL_keep_39 rfl ?_
    refine g_iconst (pc' := 53) (v := 1) C d_OL_keep_52 rfl rfl ?_
    replace hf := g_o2 hf; obtain ⟨h1, hf⟩ := hf; subst h1
    replace hf := g_o2 hf; obtain ⟨h1, hf⟩ := hf; subst h1
    replace hf := Option.some.inj hf; subst hf
    exact g_iret C d_OL_keep_53 () rfl
def f_OL_keep  (p1 : Int32) (p2 : Int32) (x_o_acts_bodies : Int32) (x_o_shelves_ep1_holds : Int32) (x_o_shelves_ep1_body : Int32) : Option (Int32 × Int32 × Int32) :=
  (f_OL_isShelf  p1).bind fun r6 =>
  if r6 = true then
    (if p2 = (-1 : Int32) then
      (f_OL_keep_L25  p1 p2 x_o_shelves_ep1_holds x_o_shelves_ep1_body)
    else
      ((f_Ac_isBody  p2 x_o_acts_bodies).bind fun r8 =>
      if r8 = true then
        (f_OL_keep_L25  p1 p2 x_o_shelves_ep1_holds x_o_shelves_ep1_body)
      else
        (some ((-1 : Int32), x_o_shelves_ep1_holds, x_o_shelves_ep1_body))))
  else
    (some ((-1 : Int32), x_o_shelves_ep1_holds, x_o_shelves_ep1_body))
set_option maxRecDepth 20000 in
theorem c_OL_keep {l : Launch} {D : va_G} {dA : Nat → ClassId} {a_o a_o_wall a_o_imageOfWall a_o_rules a_o_tape a_o_costs a_o_thought a_o_acts a_o_shelves a_o_acts_kinds a_o_acts_trace a_o_shelves_ep1 a_o_shelves_ep1_elements : Nat} {x_o_imageIsKept : Bool} {x_o_acts_ran : Int32} {x_o_acts_number : Int32} {x_o_shelves : Nat → Option Nat} {x_o_shelves_ep1_sort : Int32} {x_o_shelves_ep1_length : Int32} {p1 : Int32} {p2 : Int32} {x_o_acts_bodies : Int32} {x_o_shelves_ep1_holds : Int32} {x_o_shelves_ep1_body : Int32} {r0 : Int32} {o_x_o_shelves_ep1_holds : Int32} {o_x_o_shelves_ep1_body : Int32}  (he_p1 : x_o_shelves (Int32.toNatClampNeg p1) = some a_o_shelves_ep1) (hf : f_OL_keep  p1 p2 x_o_acts_bodies x_o_shelves_ep1_holds x_o_shelves_ep1_body = some (r0, o_x_o_shelves_ep1_holds, o_x_o_shelves_ep1_body)) : CT l y_OL_keep prog_1_method_30_code 3 (some .int) { frames := 1, cells := 0, slots := 0, locals := 21 } D dA [.ref a_o, .int p1, .int p2] [O_OL a_o a_o_wall a_o_imageOfWall x_o_imageIsKept a_o_rules a_o_tape a_o_costs a_o_thought a_o_acts a_o_shelves, O_Ac a_o_acts a_o_acts_kinds x_o_acts_bodies a_o_acts_trace x_o_acts_ran x_o_acts_number, A_Q dA a_o_shelves 6 x_o_shelves, O_Sh a_o_shelves_ep1 x_o_shelves_ep1_holds x_o_shelves_ep1_body x_o_shelves_ep1_sort x_o_shelves_ep1_length a_o_shelves_ep1_elements] (some (.int r0)) (fun _ : Unit => [O_OL a_o a_o_wall a_o_imageOfWall x_o_imageIsKept a_o_rules a_o_tape a_o_costs a_o_thought a_o_acts a_o_shelves, O_Ac a_o_acts a_o_acts_kinds x_o_acts_bodies a_o_acts_trace x_o_acts_ran x_o_acts_number, A_Q dA a_o_shelves 6 x_o_shelves, O_Sh a_o_shelves_ep1 o_x_o_shelves_ep1_holds o_x_o_shelves_ep1_body x_o_shelves_ep1_sort x_o_shelves_ep1_length a_o_shelves_ep1_elements]) := by
  refine ct_intro "OneLamp" rfl (by decide +kernel) (Nat.le_of_ble_eq_true rfl) [(0, .ref a_o), (1, .int p1), (2, .int p2)] rfl (fun _ C => ?_)
  unfold f_OL_keep at hf
  refine g_iload_n (pc' := 1) C 1 d_OL_keep_0 rfl rfl ?_
  replace hf := g_bi hf; obtain ⟨r6, hc7, hf⟩ := hf
  refine g_callS (pc' := 4) (st1 := [.int (b2i r6)]) (ws1 := [O_OL a_o a_o_wall a_o_imageOfWall x_o_imageIsKept a_o_rules a_o_tape a_o_costs a_o_thought a_o_acts a_o_shelves, O_Ac a_o_acts a_o_acts_kinds x_o_acts_bodies a_o_acts_trace x_o_acts_ran x_o_acts_number, A_Q dA a_o_shelves 6 x_o_shelves, O_Sh a_o_shelves_ep1 x_o_shelves_ep1_holds x_o_shelves_ep1_body x_o_shelves_ep1_sort x_o_shelves_ep1_length a_o_shelves_ep1_elements]) C (c_OL_isShelf (l := l) (D := D) (dA := dA)    hc7) yy_OL_isShelf mw_2_99 d_OL_keep_1 rfl [] rfl rfl (Nat.le_of_ble_eq_true rfl) ⟨Nat.le_of_ble_eq_true rfl, Nat.le_of_ble_eq_true rfl⟩ rfl rfl (Nat.zero_le _) (Nat.zero_le _) [] rfl (by decide +kernel) rfl (g_lay_sel _ _ _ _ [(0, false), (1, false), (2, false), (3, false)] (by decide +kernel) rfl (by decide +kernel) rfl rfl) rfl ?_
  refine g_if_eqb (pc' := 7) (tgt := 23) C d_OL_keep_4 rfl rfl (fun h => ?_) (fun h => ?_)
  · replace hf := g_bf h hf
    refine g_iconst (pc' := 24) (v := (-1)) C d_OL_keep_23 rfl rfl ?_
    replace hf := g_o2 hf; obtain ⟨h1, hf⟩ := hf; subst h1
    replace hf := g_o2 hf; obtain ⟨h1, hf⟩ := hf; subst h1
    replace hf := Option.some.inj hf; subst hf
    exact g_iret C d_OL_keep_24 () rfl
  · replace hf := g_bt h hf
    refine g_iload_n (pc' := 8) C 2 d_OL_keep_7 rfl rfl ?_
    refine g_iconst (pc' := 9) (v := (-1)) C d_OL_keep_8 rfl rfl ?_
    refine g_icmp_eq (pc' := 12) (tgt := 25) C d_OL_keep_9 rfl rfl (fun h => ?_) (fun h => ?_)
    · replace hf := g_ip h hf
      exact w_OL_keep_L25 (a_o := a_o) (a_o_wall := a_o_wall) (a_o_imageOfWall := a_o_imageOfWall) (a_o_rules := a_o_rules) (a_o_tape := a_o_tape) (a_o_costs := a_o_costs) (a_o_thought := a_o_thought) (a_o_acts := a_o_acts) (a_o_shelves := a_o_shelves) (a_o_acts_kinds := a_o_acts_kinds) (a_o_acts_trace := a_o_acts_trace) (a_o_shelves_ep1 := a_o_shelves_ep1) (a_o_shelves_ep1_elements := a_o_shelves_ep1_elements) C he_p1  p2 x_o_shelves_ep1_holds x_o_shelves_ep1_body hf
    · replace hf := g_in h hf
      refine g_aload_n (pc' := 13) C 0 d_OL_keep_12 rfl rfl ?_
      refine g_get (pc' := 16) C kf_OL 7 mw_2_51 d_OL_keep_13 rfl 0 rfl (by decide) rfl ?_
      refine g_iload_n (pc' := 17) C 2 d_OL_keep_16 rfl rfl ?_
      replace hf := g_bi hf; obtain ⟨r8, hc9, hf⟩ := hf
      refine g_callV (pc' := 20) (st1 := [.int (b2i r8)]) (ws1 := [O_OL a_o a_o_wall a_o_imageOfWall x_o_imageIsKept a_o_rules a_o_tape a_o_costs a_o_thought a_o_acts a_o_shelves, O_Ac a_o_acts a_o_acts_kinds x_o_acts_bodies a_o_acts_trace x_o_acts_ran x_o_acts_number, A_Q dA a_o_shelves 6 x_o_shelves, O_Sh a_o_shelves_ep1 x_o_shelves_ep1_holds x_o_shelves_ep1_body x_o_shelves_ep1_sort x_o_shelves_ep1_length a_o_shelves_ep1_elements]) C (c_Ac_isBody (l := l) (D := D) (dA := dA) (a_o := a_o_acts) (a_o_kinds := a_o_acts_kinds) (a_o_trace := a_o_acts_trace) (x_o_ran := x_o_acts_ran) (x_o_number := x_o_acts_number)   hc9) yy_Ac_isBody kf_Ac rfl mw_4_60 d_OL_keep_17 rfl [] rfl rfl (Nat.le_of_ble_eq_true rfl) ⟨Nat.le_of_ble_eq_true rfl, Nat.le_of_ble_eq_true rfl⟩ rfl rfl (Nat.zero_le _) (Nat.zero_le _) 1 rfl [1] rfl (by decide +kernel) rfl (g_lay_sel _ _ _ _ [(0, false), (0, true), (2, false), (3, false)] (by decide +kernel) rfl (by decide +kernel) rfl rfl) rfl ?_
      refine g_if_neb (pc' := 23) (tgt := 25) C d_OL_keep_20 rfl rfl (fun h => ?_) (fun h => ?_)
      · replace hf := g_bt h hf
        exact w_OL_keep_L25 (a_o := a_o) (a_o_wall := a_o_wall) (a_o_imageOfWall := a_o_imageOfWall) (a_o_rules := a_o_rules) (a_o_tape := a_o_tape) (a_o_costs := a_o_costs) (a_o_thought := a_o_thought) (a_o_acts := a_o_acts) (a_o_shelves := a_o_shelves) (a_o_acts_kinds := a_o_acts_kinds) (a_o_acts_trace := a_o_acts_trace) (a_o_shelves_ep1 := a_o_shelves_ep1) (a_o_shelves_ep1_elements := a_o_shelves_ep1_elements) C he_p1  p2 x_o_shelves_ep1_holds x_o_shelves_ep1_body hf
      · replace hf := g_bf h hf
        refine g_iconst (pc' := 24) (v := (-1)) C d_OL_keep_23 rfl rfl ?_
        replace hf := g_o2 hf; obtain ⟨h1, hf⟩ := hf; subst h1
        replace hf := g_o2 hf; obtain ⟨h1, hf⟩ := hf; subst h1
        replace hf := Option.some.inj hf; subst hf
        exact g_iret C d_OL_keep_24 () rfl
def y_OL_row : MethodName := ⟨"OneLamp", "row", "(III)I"⟩
theorem yy_OL_row : YV y_OL_row prog_1_method_31_code 4 (some .int) 3 := ⟨mw_4_72, mw_1_1, mw_4_70, mw_4_71, by decide +kernel, by decide +kernel, by decide +kernel⟩
theorem d_OL_row_0 : decode prog_1_method_31_code 0 = .ok (.iload_n 1, 1) := by decide +kernel
theorem d_OL_row_1 : decode prog_1_method_31_code 1 = .ok (.invokestatic 88, 3) := by decide +kernel
theorem d_OL_row_4 : decode prog_1_method_31_code 4 = .ok (.ifCond .eq 18, 3) := by decide +kernel
theorem d_OL_row_7 : decode prog_1_method_31_code 7 = .ok (.iload_n 2, 1) := by decide +kernel
theorem d_OL_row_8 : decode prog_1_method_31_code 8 = .ok (.ifCond .lt 14, 3) := by decide +kernel
theorem d_OL_row_11 : decode prog_1_method_31_code 11 = .ok (.iload_n 2, 1) := by decide +kernel
theorem d_OL_row_12 : decode prog_1_method_31_code 12 = .ok (.iconst 4, 1) := by decide +kernel
theorem d_OL_row_13 : decode prog_1_method_31_code 13 = .ok (.if_icmp .gt 9, 3) := by decide +kernel
theorem d_OL_row_16 : decode prog_1_method_31_code 16 = .ok (.iload_n 3, 1) := by decide +kernel
theorem d_OL_row_17 : decode prog_1_method_31_code 17 = .ok (.bipush 60, 2) := by decide +kernel
theorem d_OL_row_19 : decode prog_1_method_31_code 19 = .ok (.if_icmp .le 5, 3) := by decide +kernel
theorem d_OL_row_22 : decode prog_1_method_31_code 22 = .ok (.iconst (-1), 1) := by decide +kernel
theorem d_OL_row_23 : decode prog_1_method_31_code 23 = .ok (.ireturn, 1) := by decide +kernel
theorem d_OL_row_24 : decode prog_1_method_31_code 24 = .ok (.iload_n 3, 1) := by decide +kernel
theorem d_OL_row_25 : decode prog_1_method_31_code 25 = .ok (.ifCond .ge 6, 3) := by decide +kernel
theorem d_OL_row_28 : decode prog_1_method_31_code 28 = .ok (.bipush (-14), 2) := by decide +kernel
theorem d_OL_row_30 : decode prog_1_method_31_code 30 = .ok (.ireturn, 1) := by decide +kernel
theorem d_OL_row_31 : decode prog_1_method_31_code 31 = .ok (.aload_n 0, 1) := by decide +kernel
theorem d_OL_row_32 : decode prog_1_method_31_code 32 = .ok (.getfield 56, 3) := by decide +kernel
theorem d_OL_row_35 : decode prog_1_method_31_code 35 = .ok (.iload_n 1, 1) := by decide +kernel
theorem d_OL_row_36 : decode prog_1_method_31_code 36 = .ok (.aaload, 1) := by decide +kernel
theorem d_OL_row_37 : decode prog_1_method_31_code 37 = .ok (.iload_n 2, 1) := by decide +kernel
theorem d_OL_row_38 : decode prog_1_method_31_code 38 = .ok (.iload_n 3, 1) := by decide +kernel
theorem d_OL_row_39 : decode prog_1_method_31_code 39 = .ok (.invokevirtual 268, 3) := by decide +kernel
theorem d_OL_row_42 : decode prog_1_method_31_code 42 = .ok (.iconst 1, 1) := by decide +kernel
theorem d_OL_row_43 : decode prog_1_method_31_code 43 = .ok (.ireturn, 1) := by decide +kernel
def f_OL_row  (p1 : Int32) (p2 : Int32) (p3 : Int32) (x_o_shelves_ep1_holds : Int32) (x_o_shelves_ep1_sort : Int32) (x_o_shelves_ep1_length : Int32) (x_o_shelves_ep1_elements : Nat → Int64) : Option (Int32 × Int32 × Int32 × Int32 × (Nat → Int64)) :=
  (f_OL_isShelf  p1).bind fun r1 =>
  if r1 = true then
    (if p2 < 0 then
      (some ((-1 : Int32), x_o_shelves_ep1_holds, x_o_shelves_ep1_sort, x_o_shelves_ep1_length, x_o_shelves_ep1_elements))
    else
      (if (4 : Int32) < p2 then
        (some ((-1 : Int32), x_o_shelves_ep1_holds, x_o_shelves_ep1_sort, x_o_shelves_ep1_length, x_o_shelves_ep1_elements))
      else
        (if p3 ≤ (60 : Int32) then
          (if 0 ≤ p3 then
            (if p1 < 0 ∨ 6 ≤ Int32.toNatClampNeg p1 then none else
            (f_Sh_holdRow  p2 p3 x_o_shelves_ep1_holds x_o_shelves_ep1_sort x_o_shelves_ep1_length x_o_shelves_ep1_elements).bind fun (u3, u4, u5, u6) =>
            some ((1 : Int32), u3, u4, u5, u6))
          else
            (some ((-14 : Int32), x_o_shelves_ep1_holds, x_o_shelves_ep1_sort, x_o_shelves_ep1_length, x_o_shelves_ep1_elements)))
        else
          (some ((-1 : Int32), x_o_shelves_ep1_holds, x_o_shelves_ep1_sort, x_o_shelves_ep1_length, x_o_shelves_ep1_elements)))))
  else
    (some ((-1 : Int32), x_o_shelves_ep1_holds, x_o_shelves_ep1_sort, x_o_shelves_ep1_length, x_o_shelves_ep1_elements))
set_option maxRecDepth 20000 in
theorem c_OL_row {l : Launch} {D : va_G} {dA : Nat → ClassId} {a_o a_o_wall a_o_imageOfWall a_o_rules a_o_tape a_o_costs a_o_thought a_o_acts a_o_shelves a_o_shelves_ep1 a_o_shelves_ep1_elements : Nat} {x_o_imageIsKept : Bool} {x_o_shelves : Nat → Option Nat} {x_o_shelves_ep1_body : Int32} {p1 : Int32} {p2 : Int32} {p3 : Int32} {x_o_shelves_ep1_holds : Int32} {x_o_shelves_ep1_sort : Int32} {x_o_shelves_ep1_length : Int32} {x_o_shelves_ep1_elements : Nat → Int64} {r0 : Int32} {o_x_o_shelves_ep1_holds : Int32} {o_x_o_shelves_ep1_sort : Int32} {o_x_o_shelves_ep1_length : Int32} {o_x_o_shelves_ep1_elements : Nat → Int64}  (he_p1 : x_o_shelves (Int32.toNatClampNeg p1) = some a_o_shelves_ep1) (hf : f_OL_row  p1 p2 p3 x_o_shelves_ep1_holds x_o_shelves_ep1_sort x_o_shelves_ep1_length x_o_shelves_ep1_elements = some (r0, o_x_o_shelves_ep1_holds, o_x_o_shelves_ep1_sort, o_x_o_shelves_ep1_length, o_x_o_shelves_ep1_elements)) : CT l y_OL_row prog_1_method_31_code 4 (some .int) { frames := 2, cells := 0, slots := 0, locals := 46 } D dA [.ref a_o, .int p1, .int p2, .int p3] [O_OL a_o a_o_wall a_o_imageOfWall x_o_imageIsKept a_o_rules a_o_tape a_o_costs a_o_thought a_o_acts a_o_shelves, A_Q dA a_o_shelves 6 x_o_shelves, O_Sh a_o_shelves_ep1 x_o_shelves_ep1_holds x_o_shelves_ep1_body x_o_shelves_ep1_sort x_o_shelves_ep1_length a_o_shelves_ep1_elements, A_J dA a_o_shelves_ep1_elements 60 x_o_shelves_ep1_elements] (some (.int r0)) (fun _ : Unit => [O_OL a_o a_o_wall a_o_imageOfWall x_o_imageIsKept a_o_rules a_o_tape a_o_costs a_o_thought a_o_acts a_o_shelves, A_Q dA a_o_shelves 6 x_o_shelves, O_Sh a_o_shelves_ep1 o_x_o_shelves_ep1_holds x_o_shelves_ep1_body o_x_o_shelves_ep1_sort o_x_o_shelves_ep1_length a_o_shelves_ep1_elements, A_J dA a_o_shelves_ep1_elements 60 o_x_o_shelves_ep1_elements]) := by
  refine ct_intro "OneLamp" rfl (by decide +kernel) (Nat.le_of_ble_eq_true rfl) [(0, .ref a_o), (1, .int p1), (2, .int p2), (3, .int p3)] rfl (fun _ C => ?_)
  unfold f_OL_row at hf
  refine g_iload_n (pc' := 1) C 1 d_OL_row_0 rfl rfl ?_
  replace hf := g_bi hf; obtain ⟨r1, hc2, hf⟩ := hf
  refine g_callS (pc' := 4) (st1 := [.int (b2i r1)]) (ws1 := [O_OL a_o a_o_wall a_o_imageOfWall x_o_imageIsKept a_o_rules a_o_tape a_o_costs a_o_thought a_o_acts a_o_shelves, A_Q dA a_o_shelves 6 x_o_shelves, O_Sh a_o_shelves_ep1 x_o_shelves_ep1_holds x_o_shelves_ep1_body x_o_shelves_ep1_sort x_o_shelves_ep1_length a_o_shelves_ep1_elements, A_J dA a_o_shelves_ep1_elements 60 x_o_shelves_ep1_elements]) C (c_OL_isShelf (l := l) (D := D) (dA := dA)    hc2) yy_OL_isShelf mw_2_99 d_OL_row_1 rfl [] rfl rfl (Nat.le_of_ble_eq_true rfl) ⟨Nat.le_of_ble_eq_true rfl, Nat.le_of_ble_eq_true rfl⟩ rfl rfl (Nat.zero_le _) (Nat.zero_le _) [] rfl (by decide +kernel) rfl (g_lay_sel _ _ _ _ [(0, false), (1, false), (2, false), (3, false)] (by decide +kernel) rfl (by decide +kernel) rfl rfl) rfl ?_
  refine g_if_eqb (pc' := 7) (tgt := 22) C d_OL_row_4 rfl rfl (fun h => ?_) (fun h => ?_)
  · replace hf := g_bf h hf
    refine g_iconst (pc' := 23) (v := (-1)) C d_OL_row_22 rfl rfl ?_
    replace hf := g_o2 hf; obtain ⟨h1, hf⟩ := hf; subst h1
    replace hf := g_o2 hf; obtain ⟨h1, hf⟩ := hf; subst h1
    replace hf := g_o2 hf; obtain ⟨h1, hf⟩ := hf; subst h1
    replace hf := g_o2 hf; obtain ⟨h1, hf⟩ := hf; subst h1
    replace hf := Option.some.inj hf; subst hf
    exact g_iret C d_OL_row_23 () rfl
  · replace hf := g_bt h hf
    refine g_iload_n (pc' := 8) C 2 d_OL_row_7 rfl rfl ?_
    refine g_if_lt (pc' := 11) (tgt := 22) C d_OL_row_8 rfl rfl (fun h => ?_) (fun h => ?_)
    · replace hf := g_ip h hf
      refine g_iconst (pc' := 23) (v := (-1)) C d_OL_row_22 rfl rfl ?_
      replace hf := g_o2 hf; obtain ⟨h1, hf⟩ := hf; subst h1
      replace hf := g_o2 hf; obtain ⟨h1, hf⟩ := hf; subst h1
      replace hf := g_o2 hf; obtain ⟨h1, hf⟩ := hf; subst h1
      replace hf := g_o2 hf; obtain ⟨h1, hf⟩ := hf; subst h1
      replace hf := Option.some.inj hf; subst hf
      exact g_iret C d_OL_row_23 () rfl
    · replace hf := g_in h hf
      refine g_iload_n (pc' := 12) C 2 d_OL_row_11 rfl rfl ?_
      refine g_iconst (pc' := 13) (v := 4) C d_OL_row_12 rfl rfl ?_
      refine g_icmp_gt (pc' := 16) (tgt := 22) C d_OL_row_13 rfl rfl (fun h => ?_) (fun h => ?_)
      · replace hf := g_ip h hf
        refine g_iconst (pc' := 23) (v := (-1)) C d_OL_row_22 rfl rfl ?_
        replace hf := g_o2 hf; obtain ⟨h1, hf⟩ := hf; subst h1
        replace hf := g_o2 hf; obtain ⟨h1, hf⟩ := hf; subst h1
        replace hf := g_o2 hf; obtain ⟨h1, hf⟩ := hf; subst h1
        replace hf := g_o2 hf; obtain ⟨h1, hf⟩ := hf; subst h1
        replace hf := Option.some.inj hf; subst hf
        exact g_iret C d_OL_row_23 () rfl
      · replace hf := g_in h hf
        refine g_iload_n (pc' := 17) C 3 d_OL_row_16 rfl rfl ?_
        refine g_bipush (pc' := 19) (v := 60) C d_OL_row_17 rfl rfl ?_
        refine g_icmp_le (pc' := 22) (tgt := 24) C d_OL_row_19 rfl rfl (fun h => ?_) (fun h => ?_)
        · replace hf := g_ip h hf
          refine g_iload_n (pc' := 25) C 3 d_OL_row_24 rfl rfl ?_
          refine g_if_ge (pc' := 28) (tgt := 31) C d_OL_row_25 rfl rfl (fun h => ?_) (fun h => ?_)
          · replace hf := g_ip h hf
            refine g_aload_n (pc' := 32) C 0 d_OL_row_31 rfl rfl ?_
            refine g_get (pc' := 35) C kf_OL 8 mw_2_52 d_OL_row_32 rfl 0 rfl (by decide) rfl ?_
            refine g_iload_n (pc' := 36) C 1 d_OL_row_35 rfl rfl ?_
            have hb := g_ck hf
            replace hf := g_in hb hf
            refine g_aald (pc' := 37) C d_OL_row_36 rfl 1 rfl hb he_p1 ?_
            refine g_iload_n (pc' := 38) C 2 d_OL_row_37 rfl rfl ?_
            refine g_iload_n (pc' := 39) C 3 d_OL_row_38 rfl rfl ?_
            replace hf := g_bi hf; obtain ⟨⟨u3, u4, u5, u6⟩, hc7, hf⟩ := hf
            dsimp only at hf
            refine g_callV (pc' := 42) (st1 := []) (ws1 := [O_OL a_o a_o_wall a_o_imageOfWall x_o_imageIsKept a_o_rules a_o_tape a_o_costs a_o_thought a_o_acts a_o_shelves, A_Q dA a_o_shelves 6 x_o_shelves, O_Sh a_o_shelves_ep1 u3 x_o_shelves_ep1_body u4 u5 a_o_shelves_ep1_elements, A_J dA a_o_shelves_ep1_elements 60 u6]) C (c_Sh_holdRow (l := l) (D := D) (dA := dA) (a_o := a_o_shelves_ep1) (a_o_elements := a_o_shelves_ep1_elements) (x_o_body := x_o_shelves_ep1_body)   hc7) yy_Sh_holdRow kf_Sh rfl mw_4_73 d_OL_row_39 rfl [] rfl rfl (Nat.le_of_ble_eq_true rfl) ⟨Nat.le_of_ble_eq_true rfl, Nat.le_of_ble_eq_true rfl⟩ rfl rfl (Nat.zero_le _) (Nat.zero_le _) 2 rfl [2, 3] rfl (by decide +kernel) rfl (g_lay_sel _ _ _ _ [(0, false), (1, false), (0, true), (1, true)] (by decide +kernel) rfl (by decide +kernel) rfl rfl) rfl ?_
            refine g_iconst (pc' := 43) (v := 1) C d_OL_row_42 rfl rfl ?_
            replace hf := g_o2 hf; obtain ⟨h1, hf⟩ := hf; subst h1
            replace hf := g_o2 hf; obtain ⟨h1, hf⟩ := hf; subst h1
            replace hf := g_o2 hf; obtain ⟨h1, hf⟩ := hf; subst h1
            replace hf := g_o2 hf; obtain ⟨h1, hf⟩ := hf; subst h1
            replace hf := Option.some.inj hf; subst hf
            exact g_iret C d_OL_row_43 () rfl
          · replace hf := g_in h hf
            refine g_bipush (pc' := 30) (v := (-14)) C d_OL_row_28 rfl rfl ?_
            replace hf := g_o2 hf; obtain ⟨h1, hf⟩ := hf; subst h1
            replace hf := g_o2 hf; obtain ⟨h1, hf⟩ := hf; subst h1
            replace hf := g_o2 hf; obtain ⟨h1, hf⟩ := hf; subst h1
            replace hf := g_o2 hf; obtain ⟨h1, hf⟩ := hf; subst h1
            replace hf := Option.some.inj hf; subst hf
            exact g_iret C d_OL_row_30 () rfl
        · replace hf := g_in h hf
          refine g_iconst (pc' := 23) (v := (-1)) C d_OL_row_22 rfl rfl ?_
          replace hf := g_o2 hf; obtain ⟨h1, hf⟩ := hf; subst h1
          replace hf := g_o2 hf; obtain ⟨h1, hf⟩ := hf; subst h1
          replace hf := g_o2 hf; obtain ⟨h1, hf⟩ := hf; subst h1
          replace hf := g_o2 hf; obtain ⟨h1, hf⟩ := hf; subst h1
          replace hf := Option.some.inj hf; subst hf
          exact g_iret C d_OL_row_23 () rfl
def y_OL_elementRefusal : MethodName := ⟨"OneLamp", "elementRefusal", "(II)I"⟩
theorem yy_OL_elementRefusal : YV y_OL_elementRefusal prog_1_method_38_code 3 (some .int) 2 := ⟨mw_4_85, mw_1_1, mw_4_84, tm_s (y := y_OL_elementRefusal) (n := 9) (by decide +kernel), by decide +kernel, by decide +kernel, by decide +kernel⟩
theorem d_OL_elementRefusal_0 : decode prog_1_method_38_code 0 = .ok (.iload_n 1, 1) := by decide +kernel
theorem d_OL_elementRefusal_1 : decode prog_1_method_38_code 1 = .ok (.invokestatic 88, 3) := by decide +kernel
theorem d_OL_elementRefusal_4 : decode prog_1_method_38_code 4 = .ok (.ifCond .ne 5, 3) := by decide +kernel
theorem d_OL_elementRefusal_7 : decode prog_1_method_38_code 7 = .ok (.iconst (-1), 1) := by decide +kernel
theorem d_OL_elementRefusal_8 : decode prog_1_method_38_code 8 = .ok (.ireturn, 1) := by decide +kernel
theorem d_OL_elementRefusal_9 : decode prog_1_method_38_code 9 = .ok (.aload_n 0, 1) := by decide +kernel
theorem d_OL_elementRefusal_10 : decode prog_1_method_38_code 10 = .ok (.getfield 56, 3) := by decide +kernel
theorem d_OL_elementRefusal_13 : decode prog_1_method_38_code 13 = .ok (.iload_n 1, 1) := by decide +kernel
theorem d_OL_elementRefusal_14 : decode prog_1_method_38_code 14 = .ok (.aaload, 1) := by decide +kernel
theorem d_OL_elementRefusal_15 : decode prog_1_method_38_code 15 = .ok (.invokevirtual 91, 3) := by decide +kernel
theorem d_OL_elementRefusal_18 : decode prog_1_method_38_code 18 = .ok (.ifCond .eq 6, 3) := by decide +kernel
theorem d_OL_elementRefusal_21 : decode prog_1_method_38_code 21 = .ok (.bipush (-11), 2) := by decide +kernel
theorem d_OL_elementRefusal_23 : decode prog_1_method_38_code 23 = .ok (.ireturn, 1) := by decide +kernel
theorem d_OL_elementRefusal_24 : decode prog_1_method_38_code 24 = .ok (.aload_n 0, 1) := by decide +kernel
theorem d_OL_elementRefusal_25 : decode prog_1_method_38_code 25 = .ok (.getfield 56, 3) := by decide +kernel
theorem d_OL_elementRefusal_28 : decode prog_1_method_38_code 28 = .ok (.iload_n 1, 1) := by decide +kernel
theorem d_OL_elementRefusal_29 : decode prog_1_method_38_code 29 = .ok (.aaload, 1) := by decide +kernel
theorem d_OL_elementRefusal_30 : decode prog_1_method_38_code 30 = .ok (.invokevirtual 283, 3) := by decide +kernel
theorem d_OL_elementRefusal_33 : decode prog_1_method_38_code 33 = .ok (.ifCond .ne 6, 3) := by decide +kernel
theorem d_OL_elementRefusal_36 : decode prog_1_method_38_code 36 = .ok (.bipush (-12), 2) := by decide +kernel
theorem d_OL_elementRefusal_38 : decode prog_1_method_38_code 38 = .ok (.ireturn, 1) := by decide +kernel
theorem d_OL_elementRefusal_39 : decode prog_1_method_38_code 39 = .ok (.aload_n 0, 1) := by decide +kernel
theorem d_OL_elementRefusal_40 : decode prog_1_method_38_code 40 = .ok (.getfield 56, 3) := by decide +kernel
theorem d_OL_elementRefusal_43 : decode prog_1_method_38_code 43 = .ok (.iload_n 1, 1) := by decide +kernel
theorem d_OL_elementRefusal_44 : decode prog_1_method_38_code 44 = .ok (.aaload, 1) := by decide +kernel
theorem d_OL_elementRefusal_45 : decode prog_1_method_38_code 45 = .ok (.iload_n 2, 1) := by decide +kernel
theorem d_OL_elementRefusal_46 : decode prog_1_method_38_code 46 = .ok (.invokevirtual 98, 3) := by decide +kernel
theorem d_OL_elementRefusal_49 : decode prog_1_method_38_code 49 = .ok (.ifCond .eq 7, 3) := by decide +kernel
theorem d_OL_elementRefusal_52 : decode prog_1_method_38_code 52 = .ok (.iconst 0, 1) := by decide +kernel
theorem d_OL_elementRefusal_53 : decode prog_1_method_38_code 53 = .ok (.goto 5, 3) := by decide +kernel
theorem d_OL_elementRefusal_56 : decode prog_1_method_38_code 56 = .ok (.bipush (-13), 2) := by decide +kernel
theorem d_OL_elementRefusal_58 : decode prog_1_method_38_code 58 = .ok (.ireturn, 1) := by decide +kernel
def f_OL_elementRefusal  (p1 : Int32) (p2 : Int32) (x_o_shelves_ep1_holds : Int32) (x_o_shelves_ep1_length : Int32) : Option (Int32) :=
  (f_OL_isShelf  p1).bind fun r1 =>
  if r1 = true then
    (if p1 < 0 ∨ 6 ≤ Int32.toNatClampNeg p1 then none else
    (f_Sh_isEmpty  x_o_shelves_ep1_holds).bind fun r3 =>
    if r3 = true then
      (some ((-11 : Int32)))
    else
      (if p1 < 0 ∨ 6 ≤ Int32.toNatClampNeg p1 then none else
      (f_Sh_isRow  x_o_shelves_ep1_holds).bind fun r5 =>
      if r5 = true then
        (if p1 < 0 ∨ 6 ≤ Int32.toNatClampNeg p1 then none else
        (f_Sh_hasPlace  p2 x_o_shelves_ep1_holds x_o_shelves_ep1_length).bind fun r7 =>
        if r7 = true then
          (some ((0 : Int32)))
        else
          (some ((-13 : Int32))))
      else
        (some ((-12 : Int32)))))
  else
    (some ((-1 : Int32)))
set_option maxRecDepth 20000 in
theorem c_OL_elementRefusal {l : Launch} {D : va_G} {dA : Nat → ClassId} {a_o a_o_wall a_o_imageOfWall a_o_rules a_o_tape a_o_costs a_o_thought a_o_acts a_o_shelves a_o_shelves_ep1 a_o_shelves_ep1_elements : Nat} {x_o_imageIsKept : Bool} {x_o_shelves : Nat → Option Nat} {x_o_shelves_ep1_body : Int32} {x_o_shelves_ep1_sort : Int32} {p1 : Int32} {p2 : Int32} {x_o_shelves_ep1_holds : Int32} {x_o_shelves_ep1_length : Int32} {r0 : Int32}  (he_p1 : x_o_shelves (Int32.toNatClampNeg p1) = some a_o_shelves_ep1) (hf : f_OL_elementRefusal  p1 p2 x_o_shelves_ep1_holds x_o_shelves_ep1_length = some r0) : CT l y_OL_elementRefusal prog_1_method_38_code 3 (some .int) { frames := 1, cells := 0, slots := 0, locals := 21 } D dA [.ref a_o, .int p1, .int p2] [O_OL a_o a_o_wall a_o_imageOfWall x_o_imageIsKept a_o_rules a_o_tape a_o_costs a_o_thought a_o_acts a_o_shelves, A_Q dA a_o_shelves 6 x_o_shelves, O_Sh a_o_shelves_ep1 x_o_shelves_ep1_holds x_o_shelves_ep1_body x_o_shelves_ep1_sort x_o_shelves_ep1_length a_o_shelves_ep1_elements] (some (.int r0)) (fun _ : Unit => [O_OL a_o a_o_wall a_o_imageOfWall x_o_imageIsKept a_o_rules a_o_tape a_o_costs a_o_thought a_o_acts a_o_shelves, A_Q dA a_o_shelves 6 x_o_shelves, O_Sh a_o_shelves_ep1 x_o_shelves_ep1_holds x_o_shelves_ep1_body x_o_shelves_ep1_sort x_o_shelves_ep1_length a_o_shelves_ep1_elements]) := by
  refine ct_intro "OneLamp" rfl (by decide +kernel) (Nat.le_of_ble_eq_true rfl) [(0, .ref a_o), (1, .int p1), (2, .int p2)] rfl (fun _ C => ?_)
  unfold f_OL_elementRefusal at hf
  refine g_iload_n (pc' := 1) C 1 d_OL_elementRefusal_0 rfl rfl ?_
  replace hf := g_bi hf; obtain ⟨r1, hc2, hf⟩ := hf
  refine g_callS (pc' := 4) (st1 := [.int (b2i r1)]) (ws1 := [O_OL a_o a_o_wall a_o_imageOfWall x_o_imageIsKept a_o_rules a_o_tape a_o_costs a_o_thought a_o_acts a_o_shelves, A_Q dA a_o_shelves 6 x_o_shelves, O_Sh a_o_shelves_ep1 x_o_shelves_ep1_holds x_o_shelves_ep1_body x_o_shelves_ep1_sort x_o_shelves_ep1_length a_o_shelves_ep1_elements]) C (c_OL_isShelf (l := l) (D := D) (dA := dA)    hc2) yy_OL_isShelf mw_2_99 d_OL_elementRefusal_1 rfl [] rfl rfl (Nat.le_of_ble_eq_true rfl) ⟨Nat.le_of_ble_eq_true rfl, Nat.le_of_ble_eq_true rfl⟩ rfl rfl (Nat.zero_le _) (Nat.zero_le _) [] rfl (by decide +kernel) rfl (g_lay_sel _ _ _ _ [(0, false), (1, false), (2, false)] (by decide +kernel) rfl (by decide +kernel) rfl rfl) rfl ?_
  refine g_if_neb (pc' := 7) (tgt := 9) C d_OL_elementRefusal_4 rfl rfl (fun h => ?_) (fun h => ?_)
  · replace hf := g_bt h hf
    refine g_aload_n (pc' := 10) C 0 d_OL_elementRefusal_9 rfl rfl ?_
    refine g_get (pc' := 13) C kf_OL 8 mw_2_52 d_OL_elementRefusal_10 rfl 0 rfl (by decide) rfl ?_
    refine g_iload_n (pc' := 14) C 1 d_OL_elementRefusal_13 rfl rfl ?_
    have hb := g_ck hf
    replace hf := g_in hb hf
    refine g_aald (pc' := 15) C d_OL_elementRefusal_14 rfl 1 rfl hb he_p1 ?_
    replace hf := g_bi hf; obtain ⟨r3, hc4, hf⟩ := hf
    refine g_callV (pc' := 18) (st1 := [.int (b2i r3)]) (ws1 := [O_OL a_o a_o_wall a_o_imageOfWall x_o_imageIsKept a_o_rules a_o_tape a_o_costs a_o_thought a_o_acts a_o_shelves, A_Q dA a_o_shelves 6 x_o_shelves, O_Sh a_o_shelves_ep1 x_o_shelves_ep1_holds x_o_shelves_ep1_body x_o_shelves_ep1_sort x_o_shelves_ep1_length a_o_shelves_ep1_elements]) C (c_Sh_isEmpty (l := l) (D := D) (dA := dA) (a_o := a_o_shelves_ep1) (a_o_elements := a_o_shelves_ep1_elements) (x_o_body := x_o_shelves_ep1_body) (x_o_sort := x_o_shelves_ep1_sort) (x_o_length := x_o_shelves_ep1_length)   hc4) yy_Sh_isEmpty kf_Sh rfl mw_2_102 d_OL_elementRefusal_15 rfl [] rfl rfl (Nat.le_of_ble_eq_true rfl) ⟨Nat.le_of_ble_eq_true rfl, Nat.le_of_ble_eq_true rfl⟩ rfl rfl (Nat.zero_le _) (Nat.zero_le _) 2 rfl [2] rfl (by decide +kernel) rfl (g_lay_sel _ _ _ _ [(0, false), (1, false), (0, true)] (by decide +kernel) rfl (by decide +kernel) rfl rfl) rfl ?_
    refine g_if_eqb (pc' := 21) (tgt := 24) C d_OL_elementRefusal_18 rfl rfl (fun h => ?_) (fun h => ?_)
    · replace hf := g_bf h hf
      refine g_aload_n (pc' := 25) C 0 d_OL_elementRefusal_24 rfl rfl ?_
      refine g_get (pc' := 28) C kf_OL 8 mw_2_52 d_OL_elementRefusal_25 rfl 0 rfl (by decide) rfl ?_
      refine g_iload_n (pc' := 29) C 1 d_OL_elementRefusal_28 rfl rfl ?_
      have hb := g_ck hf
      replace hf := g_in hb hf
      refine g_aald (pc' := 30) C d_OL_elementRefusal_29 rfl 1 rfl hb he_p1 ?_
      replace hf := g_bi hf; obtain ⟨r5, hc6, hf⟩ := hf
      refine g_callV (pc' := 33) (st1 := [.int (b2i r5)]) (ws1 := [O_OL a_o a_o_wall a_o_imageOfWall x_o_imageIsKept a_o_rules a_o_tape a_o_costs a_o_thought a_o_acts a_o_shelves, A_Q dA a_o_shelves 6 x_o_shelves, O_Sh a_o_shelves_ep1 x_o_shelves_ep1_holds x_o_shelves_ep1_body x_o_shelves_ep1_sort x_o_shelves_ep1_length a_o_shelves_ep1_elements]) C (c_Sh_isRow (l := l) (D := D) (dA := dA) (a_o := a_o_shelves_ep1) (a_o_elements := a_o_shelves_ep1_elements) (x_o_body := x_o_shelves_ep1_body) (x_o_sort := x_o_shelves_ep1_sort) (x_o_length := x_o_shelves_ep1_length)   hc6) yy_Sh_isRow kf_Sh rfl mw_4_86 d_OL_elementRefusal_30 rfl [] rfl rfl (Nat.le_of_ble_eq_true rfl) ⟨Nat.le_of_ble_eq_true rfl, Nat.le_of_ble_eq_true rfl⟩ rfl rfl (Nat.zero_le _) (Nat.zero_le _) 2 rfl [2] rfl (by decide +kernel) rfl (g_lay_sel _ _ _ _ [(0, false), (1, false), (0, true)] (by decide +kernel) rfl (by decide +kernel) rfl rfl) rfl ?_
      refine g_if_neb (pc' := 36) (tgt := 39) C d_OL_elementRefusal_33 rfl rfl (fun h => ?_) (fun h => ?_)
      · replace hf := g_bt h hf
        refine g_aload_n (pc' := 40) C 0 d_OL_elementRefusal_39 rfl rfl ?_
        refine g_get (pc' := 43) C kf_OL 8 mw_2_52 d_OL_elementRefusal_40 rfl 0 rfl (by decide) rfl ?_
        refine g_iload_n (pc' := 44) C 1 d_OL_elementRefusal_43 rfl rfl ?_
        have hb := g_ck hf
        replace hf := g_in hb hf
        refine g_aald (pc' := 45) C d_OL_elementRefusal_44 rfl 1 rfl hb he_p1 ?_
        refine g_iload_n (pc' := 46) C 2 d_OL_elementRefusal_45 rfl rfl ?_
        replace hf := g_bi hf; obtain ⟨r7, hc8, hf⟩ := hf
        refine g_callV (pc' := 49) (st1 := [.int (b2i r7)]) (ws1 := [O_OL a_o a_o_wall a_o_imageOfWall x_o_imageIsKept a_o_rules a_o_tape a_o_costs a_o_thought a_o_acts a_o_shelves, A_Q dA a_o_shelves 6 x_o_shelves, O_Sh a_o_shelves_ep1 x_o_shelves_ep1_holds x_o_shelves_ep1_body x_o_shelves_ep1_sort x_o_shelves_ep1_length a_o_shelves_ep1_elements]) C (c_Sh_hasPlace (l := l) (D := D) (dA := dA) (a_o := a_o_shelves_ep1) (a_o_elements := a_o_shelves_ep1_elements) (x_o_body := x_o_shelves_ep1_body) (x_o_sort := x_o_shelves_ep1_sort)   hc8) yy_Sh_hasPlace kf_Sh rfl mw_2_110 d_OL_elementRefusal_46 rfl [] rfl rfl (Nat.le_of_ble_eq_true rfl) ⟨Nat.le_of_ble_eq_true rfl, Nat.le_of_ble_eq_true rfl⟩ rfl rfl (Nat.zero_le _) (Nat.zero_le _) 2 rfl [2] rfl (by decide +kernel) rfl (g_lay_sel _ _ _ _ [(0, false), (1, false), (0, true)] (by decide +kernel) rfl (by decide +kernel) rfl rfl) rfl ?_
        refine g_if_eqb (pc' := 52) (tgt := 56) C d_OL_elementRefusal_49 rfl rfl (fun h => ?_) (fun h => ?_)
        · replace hf := g_bf h hf
          refine g_bipush (pc' := 58) (v := (-13)) C d_OL_elementRefusal_56 rfl rfl ?_
          replace hf := Option.some.inj hf; subst hf
          exact g_iret C d_OL_elementRefusal_58 () rfl
        · replace hf := g_bt h hf
          refine g_iconst (pc' := 53) (v := 0) C d_OL_elementRefusal_52 rfl rfl ?_
          refine g_goto (tgt := 58) C d_OL_elementRefusal_53 rfl ?_
          replace hf := Option.some.inj hf; subst hf
          exact g_iret C d_OL_elementRefusal_58 () rfl
      · replace hf := g_bf h hf
        refine g_bipush (pc' := 38) (v := (-12)) C d_OL_elementRefusal_36 rfl rfl ?_
        replace hf := Option.some.inj hf; subst hf
        exact g_iret C d_OL_elementRefusal_38 () rfl
    · replace hf := g_bt h hf
      refine g_bipush (pc' := 23) (v := (-11)) C d_OL_elementRefusal_21 rfl rfl ?_
      replace hf := Option.some.inj hf; subst hf
      exact g_iret C d_OL_elementRefusal_23 () rfl
  · replace hf := g_bf h hf
    refine g_iconst (pc' := 8) (v := (-1)) C d_OL_elementRefusal_7 rfl rfl ?_
    replace hf := Option.some.inj hf; subst hf
    exact g_iret C d_OL_elementRefusal_8 () rfl
def y_OL_put : MethodName := ⟨"OneLamp", "put", "(IIJ)I"⟩
theorem yy_OL_put : YV y_OL_put prog_1_method_32_code 6 (some .int) 3 := ⟨mw_4_81, mw_1_1, mw_4_79, mw_4_80, by decide +kernel, by decide +kernel, by decide +kernel⟩
theorem d_OL_put_0 : decode prog_1_method_32_code 0 = .ok (.aload_n 0, 1) := by decide +kernel
theorem d_OL_put_1 : decode prog_1_method_32_code 1 = .ok (.iload_n 1, 1) := by decide +kernel
theorem d_OL_put_2 : decode prog_1_method_32_code 2 = .ok (.iload_n 2, 1) := by decide +kernel
theorem d_OL_put_3 : decode prog_1_method_32_code 3 = .ok (.invokevirtual 271, 3) := by decide +kernel
theorem d_OL_put_6 : decode prog_1_method_32_code 6 = .ok (.istore 5, 2) := by decide +kernel
theorem d_OL_put_8 : decode prog_1_method_32_code 8 = .ok (.iload 5, 2) := by decide +kernel
theorem d_OL_put_10 : decode prog_1_method_32_code 10 = .ok (.ifCond .eq 6, 3) := by decide +kernel
theorem d_OL_put_13 : decode prog_1_method_32_code 13 = .ok (.iload 5, 2) := by decide +kernel
theorem d_OL_put_15 : decode prog_1_method_32_code 15 = .ok (.ireturn, 1) := by decide +kernel
theorem d_OL_put_16 : decode prog_1_method_32_code 16 = .ok (.aload_n 0, 1) := by decide +kernel
theorem d_OL_put_17 : decode prog_1_method_32_code 17 = .ok (.getfield 56, 3) := by decide +kernel
theorem d_OL_put_20 : decode prog_1_method_32_code 20 = .ok (.iload_n 1, 1) := by decide +kernel
theorem d_OL_put_21 : decode prog_1_method_32_code 21 = .ok (.aaload, 1) := by decide +kernel
theorem d_OL_put_22 : decode prog_1_method_32_code 22 = .ok (.iload_n 2, 1) := by decide +kernel
theorem d_OL_put_23 : decode prog_1_method_32_code 23 = .ok (.lload_n 3, 1) := by decide +kernel
theorem d_OL_put_24 : decode prog_1_method_32_code 24 = .ok (.invokevirtual 275, 3) := by decide +kernel
theorem d_OL_put_27 : decode prog_1_method_32_code 27 = .ok (.iconst 1, 1) := by decide +kernel
theorem d_OL_put_28 : decode prog_1_method_32_code 28 = .ok (.ireturn, 1) := by decide +kernel
def f_OL_put  (p1 : Int32) (p2 : Int32) (p3 : Int64) (x_o_shelves_ep1_holds : Int32) (x_o_shelves_ep1_sort : Int32) (x_o_shelves_ep1_length : Int32) (x_o_shelves_ep1_elements : Nat → Int64) : Option (Int32 × (Nat → Int64)) :=
  (f_OL_elementRefusal  p1 p2 x_o_shelves_ep1_holds x_o_shelves_ep1_length).bind fun r1 =>
  if r1 = 0 then
    (if p1 < 0 ∨ 6 ≤ Int32.toNatClampNeg p1 then none else
    (f_Sh_write  p2 p3 x_o_shelves_ep1_holds x_o_shelves_ep1_sort x_o_shelves_ep1_length x_o_shelves_ep1_elements).bind fun u3 =>
    some ((1 : Int32), u3))
  else
    (some (r1, x_o_shelves_ep1_elements))
set_option maxRecDepth 20000 in
theorem c_OL_put {l : Launch} {D : va_G} {dA : Nat → ClassId} {a_o a_o_wall a_o_imageOfWall a_o_rules a_o_tape a_o_costs a_o_thought a_o_acts a_o_shelves a_o_shelves_ep1 a_o_shelves_ep1_elements : Nat} {x_o_imageIsKept : Bool} {x_o_shelves : Nat → Option Nat} {x_o_shelves_ep1_body : Int32} {p1 : Int32} {p2 : Int32} {p3 : Int64} {x_o_shelves_ep1_holds : Int32} {x_o_shelves_ep1_sort : Int32} {x_o_shelves_ep1_length : Int32} {x_o_shelves_ep1_elements : Nat → Int64} {r0 : Int32} {o_x_o_shelves_ep1_elements : Nat → Int64}  (he_p1 : x_o_shelves (Int32.toNatClampNeg p1) = some a_o_shelves_ep1) (hf : f_OL_put  p1 p2 p3 x_o_shelves_ep1_holds x_o_shelves_ep1_sort x_o_shelves_ep1_length x_o_shelves_ep1_elements = some (r0, o_x_o_shelves_ep1_elements)) : CT l y_OL_put prog_1_method_32_code 6 (some .int) { frames := 2, cells := 0, slots := 0, locals := 45 } D dA [.ref a_o, .int p1, .int p2, .long p3] [O_OL a_o a_o_wall a_o_imageOfWall x_o_imageIsKept a_o_rules a_o_tape a_o_costs a_o_thought a_o_acts a_o_shelves, A_Q dA a_o_shelves 6 x_o_shelves, O_Sh a_o_shelves_ep1 x_o_shelves_ep1_holds x_o_shelves_ep1_body x_o_shelves_ep1_sort x_o_shelves_ep1_length a_o_shelves_ep1_elements, A_J dA a_o_shelves_ep1_elements 60 x_o_shelves_ep1_elements] (some (.int r0)) (fun _ : Unit => [O_OL a_o a_o_wall a_o_imageOfWall x_o_imageIsKept a_o_rules a_o_tape a_o_costs a_o_thought a_o_acts a_o_shelves, A_Q dA a_o_shelves 6 x_o_shelves, O_Sh a_o_shelves_ep1 x_o_shelves_ep1_holds x_o_shelves_ep1_body x_o_shelves_ep1_sort x_o_shelves_ep1_length a_o_shelves_ep1_elements, A_J dA a_o_shelves_ep1_elements 60 o_x_o_shelves_ep1_elements]) := by
  refine ct_intro "OneLamp" rfl (by decide +kernel) (Nat.le_of_ble_eq_true rfl) [(0, .ref a_o), (1, .int p1), (2, .int p2), (3, .long p3)] rfl (fun _ C => ?_)
  unfold f_OL_put at hf
  refine g_aload_n (pc' := 1) C 0 d_OL_put_0 rfl rfl ?_
  refine g_iload_n (pc' := 2) C 1 d_OL_put_1 rfl rfl ?_
  refine g_iload_n (pc' := 3) C 2 d_OL_put_2 rfl rfl ?_
  replace hf := g_bi hf; obtain ⟨r1, hc2, hf⟩ := hf
  refine g_callV (pc' := 6) (st1 := [.int r1]) (ws1 := [O_OL a_o a_o_wall a_o_imageOfWall x_o_imageIsKept a_o_rules a_o_tape a_o_costs a_o_thought a_o_acts a_o_shelves, A_Q dA a_o_shelves 6 x_o_shelves, O_Sh a_o_shelves_ep1 x_o_shelves_ep1_holds x_o_shelves_ep1_body x_o_shelves_ep1_sort x_o_shelves_ep1_length a_o_shelves_ep1_elements, A_J dA a_o_shelves_ep1_elements 60 x_o_shelves_ep1_elements]) C (c_OL_elementRefusal (l := l) (D := D) (dA := dA) (a_o := a_o) (a_o_wall := a_o_wall) (a_o_imageOfWall := a_o_imageOfWall) (a_o_rules := a_o_rules) (a_o_tape := a_o_tape) (a_o_costs := a_o_costs) (a_o_thought := a_o_thought) (a_o_acts := a_o_acts) (a_o_shelves := a_o_shelves) (a_o_shelves_ep1 := a_o_shelves_ep1) (a_o_shelves_ep1_elements := a_o_shelves_ep1_elements) (x_o_imageIsKept := x_o_imageIsKept) (x_o_shelves := x_o_shelves) (x_o_shelves_ep1_body := x_o_shelves_ep1_body) (x_o_shelves_ep1_sort := x_o_shelves_ep1_sort)  he_p1 hc2) yy_OL_elementRefusal kf_OL rfl mw_4_82 d_OL_put_3 rfl [] rfl rfl (Nat.le_of_ble_eq_true rfl) ⟨Nat.le_of_ble_eq_true rfl, Nat.le_of_ble_eq_true rfl⟩ rfl rfl (Nat.zero_le _) (Nat.zero_le _) 0 rfl [0, 1, 2] rfl (by decide +kernel) rfl (g_lay_sel _ _ _ _ [(0, true), (1, true), (2, true), (3, false)] (by decide +kernel) rfl (by decide +kernel) rfl rfl) rfl ?_
  refine g_istore (pc' := 8) (lv' := [(5, .int r1), (0, .ref a_o), (1, .int p1), (2, .int p2), (3, .long p3)]) C d_OL_put_6 rfl (by decide) rfl ?_
  refine g_iload (pc' := 10) C 0 d_OL_put_8 rfl rfl ?_
  refine g_if_eq (pc' := 13) (tgt := 16) C d_OL_put_10 rfl rfl (fun h => ?_) (fun h => ?_)
  · replace hf := g_ip h hf
    refine g_aload_n (pc' := 17) C 1 d_OL_put_16 rfl rfl ?_
    refine g_get (pc' := 20) C kf_OL 8 mw_2_52 d_OL_put_17 rfl 0 rfl (by decide) rfl ?_
    refine g_iload_n (pc' := 21) C 2 d_OL_put_20 rfl rfl ?_
    have hb := g_ck hf
    replace hf := g_in hb hf
    refine g_aald (pc' := 22) C d_OL_put_21 rfl 1 rfl hb he_p1 ?_
    refine g_iload_n (pc' := 23) C 3 d_OL_put_22 rfl rfl ?_
    refine g_lload_n (pc' := 24) C 4 d_OL_put_23 rfl rfl ?_
    replace hf := g_bi hf; obtain ⟨u3, hc4, hf⟩ := hf
    refine g_callV (pc' := 27) (st1 := []) (ws1 := [O_OL a_o a_o_wall a_o_imageOfWall x_o_imageIsKept a_o_rules a_o_tape a_o_costs a_o_thought a_o_acts a_o_shelves, A_Q dA a_o_shelves 6 x_o_shelves, O_Sh a_o_shelves_ep1 x_o_shelves_ep1_holds x_o_shelves_ep1_body x_o_shelves_ep1_sort x_o_shelves_ep1_length a_o_shelves_ep1_elements, A_J dA a_o_shelves_ep1_elements 60 u3]) C (c_Sh_write (l := l) (D := D) (dA := dA) (a_o := a_o_shelves_ep1) (a_o_elements := a_o_shelves_ep1_elements) (x_o_body := x_o_shelves_ep1_body)   hc4) yy_Sh_write kf_Sh rfl mw_4_90 d_OL_put_24 rfl [] rfl rfl (Nat.le_of_ble_eq_true rfl) ⟨Nat.le_of_ble_eq_true rfl, Nat.le_of_ble_eq_true rfl⟩ rfl rfl (Nat.zero_le _) (Nat.zero_le _) 2 rfl [2, 3] rfl (by decide +kernel) rfl (g_lay_sel _ _ _ _ [(0, false), (1, false), (0, true), (1, true)] (by decide +kernel) rfl (by decide +kernel) rfl rfl) rfl ?_
    refine g_iconst (pc' := 28) (v := 1) C d_OL_put_27 rfl rfl ?_
    replace hf := g_o2 hf; obtain ⟨h1, hf⟩ := hf; subst h1
    replace hf := Option.some.inj hf; subst hf
    exact g_iret C d_OL_put_28 () rfl
  · replace hf := g_in h hf
    refine g_iload (pc' := 15) C 0 d_OL_put_13 rfl rfl ?_
    replace hf := g_o2 hf; obtain ⟨h1, hf⟩ := hf; subst h1
    replace hf := Option.some.inj hf; subst hf
    exact g_iret C d_OL_put_15 () rfl
def y_OL_element : MethodName := ⟨"OneLamp", "element", "(II)J"⟩
theorem yy_OL_element : YV y_OL_element prog_1_method_33_code 3 (some .long) 2 := ⟨mw_4_101, mw_1_1, mw_4_99, mw_4_100, by decide +kernel, by decide +kernel, by decide +kernel⟩
theorem d_OL_element_0 : decode prog_1_method_33_code 0 = .ok (.aload_n 0, 1) := by decide +kernel
theorem d_OL_element_1 : decode prog_1_method_33_code 1 = .ok (.iload_n 1, 1) := by decide +kernel
theorem d_OL_element_2 : decode prog_1_method_33_code 2 = .ok (.iload_n 2, 1) := by decide +kernel
theorem d_OL_element_3 : decode prog_1_method_33_code 3 = .ok (.invokevirtual 271, 3) := by decide +kernel
theorem d_OL_element_6 : decode prog_1_method_33_code 6 = .ok (.ifCond .ne 16, 3) := by decide +kernel
theorem d_OL_element_9 : decode prog_1_method_33_code 9 = .ok (.aload_n 0, 1) := by decide +kernel
theorem d_OL_element_10 : decode prog_1_method_33_code 10 = .ok (.getfield 56, 3) := by decide +kernel
theorem d_OL_element_13 : decode prog_1_method_33_code 13 = .ok (.iload_n 1, 1) := by decide +kernel
theorem d_OL_element_14 : decode prog_1_method_33_code 14 = .ok (.aaload, 1) := by decide +kernel
theorem d_OL_element_15 : decode prog_1_method_33_code 15 = .ok (.iload_n 2, 1) := by decide +kernel
theorem d_OL_element_16 : decode prog_1_method_33_code 16 = .ok (.invokevirtual 101, 3) := by decide +kernel
theorem d_OL_element_19 : decode prog_1_method_33_code 19 = .ok (.goto 6, 3) := by decide +kernel
theorem d_OL_element_22 : decode prog_1_method_33_code 22 = .ok (.ldc2_w 281, 3) := by decide +kernel
theorem d_OL_element_25 : decode prog_1_method_33_code 25 = .ok (.lreturn, 1) := by decide +kernel
def f_OL_element  (p1 : Int32) (p2 : Int32) (x_o_shelves_ep1_holds : Int32) (x_o_shelves_ep1_length : Int32) (x_o_shelves_ep1_elements : Nat → Int64) : Option (Int64) :=
  (f_OL_elementRefusal  p1 p2 x_o_shelves_ep1_holds x_o_shelves_ep1_length).bind fun r1 =>
  if r1 = 0 then
    (if p1 < 0 ∨ 6 ≤ Int32.toNatClampNeg p1 then none else
    (f_Sh_elementAt  p2 x_o_shelves_ep1_holds x_o_shelves_ep1_length x_o_shelves_ep1_elements).bind fun r3 =>
    some (r3))
  else
    (some ((-9223372036854775808 : Int64)))
set_option maxRecDepth 20000 in
theorem c_OL_element {l : Launch} {D : va_G} {dA : Nat → ClassId} {a_o a_o_wall a_o_imageOfWall a_o_rules a_o_tape a_o_costs a_o_thought a_o_acts a_o_shelves a_o_shelves_ep1 a_o_shelves_ep1_elements : Nat} {x_o_imageIsKept : Bool} {x_o_shelves : Nat → Option Nat} {x_o_shelves_ep1_body : Int32} {x_o_shelves_ep1_sort : Int32} {p1 : Int32} {p2 : Int32} {x_o_shelves_ep1_holds : Int32} {x_o_shelves_ep1_length : Int32} {x_o_shelves_ep1_elements : Nat → Int64} {r0 : Int64}  (he_p1 : x_o_shelves (Int32.toNatClampNeg p1) = some a_o_shelves_ep1) (hf : f_OL_element  p1 p2 x_o_shelves_ep1_holds x_o_shelves_ep1_length x_o_shelves_ep1_elements = some r0) : CT l y_OL_element prog_1_method_33_code 3 (some .long) { frames := 2, cells := 0, slots := 0, locals := 43 } D dA [.ref a_o, .int p1, .int p2] [O_OL a_o a_o_wall a_o_imageOfWall x_o_imageIsKept a_o_rules a_o_tape a_o_costs a_o_thought a_o_acts a_o_shelves, A_Q dA a_o_shelves 6 x_o_shelves, O_Sh a_o_shelves_ep1 x_o_shelves_ep1_holds x_o_shelves_ep1_body x_o_shelves_ep1_sort x_o_shelves_ep1_length a_o_shelves_ep1_elements, A_J dA a_o_shelves_ep1_elements 60 x_o_shelves_ep1_elements] (some (.long r0)) (fun _ : Unit => [O_OL a_o a_o_wall a_o_imageOfWall x_o_imageIsKept a_o_rules a_o_tape a_o_costs a_o_thought a_o_acts a_o_shelves, A_Q dA a_o_shelves 6 x_o_shelves, O_Sh a_o_shelves_ep1 x_o_shelves_ep1_holds x_o_shelves_ep1_body x_o_shelves_ep1_sort x_o_shelves_ep1_length a_o_shelves_ep1_elements, A_J dA a_o_shelves_ep1_elements 60 x_o_shelves_ep1_elements]) := by
  refine ct_intro "OneLamp" rfl (by decide +kernel) (Nat.le_of_ble_eq_true rfl) [(0, .ref a_o), (1, .int p1), (2, .int p2)] rfl (fun _ C => ?_)
  unfold f_OL_element at hf
  refine g_aload_n (pc' := 1) C 0 d_OL_element_0 rfl rfl ?_
  refine g_iload_n (pc' := 2) C 1 d_OL_element_1 rfl rfl ?_
  refine g_iload_n (pc' := 3) C 2 d_OL_element_2 rfl rfl ?_
  replace hf := g_bi hf; obtain ⟨r1, hc2, hf⟩ := hf
  refine g_callV (pc' := 6) (st1 := [.int r1]) (ws1 := [O_OL a_o a_o_wall a_o_imageOfWall x_o_imageIsKept a_o_rules a_o_tape a_o_costs a_o_thought a_o_acts a_o_shelves, A_Q dA a_o_shelves 6 x_o_shelves, O_Sh a_o_shelves_ep1 x_o_shelves_ep1_holds x_o_shelves_ep1_body x_o_shelves_ep1_sort x_o_shelves_ep1_length a_o_shelves_ep1_elements, A_J dA a_o_shelves_ep1_elements 60 x_o_shelves_ep1_elements]) C (c_OL_elementRefusal (l := l) (D := D) (dA := dA) (a_o := a_o) (a_o_wall := a_o_wall) (a_o_imageOfWall := a_o_imageOfWall) (a_o_rules := a_o_rules) (a_o_tape := a_o_tape) (a_o_costs := a_o_costs) (a_o_thought := a_o_thought) (a_o_acts := a_o_acts) (a_o_shelves := a_o_shelves) (a_o_shelves_ep1 := a_o_shelves_ep1) (a_o_shelves_ep1_elements := a_o_shelves_ep1_elements) (x_o_imageIsKept := x_o_imageIsKept) (x_o_shelves := x_o_shelves) (x_o_shelves_ep1_body := x_o_shelves_ep1_body) (x_o_shelves_ep1_sort := x_o_shelves_ep1_sort)  he_p1 hc2) yy_OL_elementRefusal kf_OL rfl mw_4_82 d_OL_element_3 rfl [] rfl rfl (Nat.le_of_ble_eq_true rfl) ⟨Nat.le_of_ble_eq_true rfl, Nat.le_of_ble_eq_true rfl⟩ rfl rfl (Nat.zero_le _) (Nat.zero_le _) 0 rfl [0, 1, 2] rfl (by decide +kernel) rfl (g_lay_sel _ _ _ _ [(0, true), (1, true), (2, true), (3, false)] (by decide +kernel) rfl (by decide +kernel) rfl rfl) rfl ?_
  refine g_if_ne (pc' := 9) (tgt := 22) C d_OL_element_6 rfl rfl (fun h => ?_) (fun h => ?_)
  · replace hf := g_in h hf
    refine g_ldc2 (pc' := 25) (v := (-9223372036854775808)) C d_OL_element_22 rfl mw_4_102 ?_
    replace hf := Option.some.inj hf; subst hf
    exact g_lret C d_OL_element_25 () rfl
  · replace hf := g_ip h hf
    refine g_aload_n (pc' := 10) C 0 d_OL_element_9 rfl rfl ?_
    refine g_get (pc' := 13) C kf_OL 8 mw_2_52 d_OL_element_10 rfl 0 rfl (by decide) rfl ?_
    refine g_iload_n (pc' := 14) C 1 d_OL_element_13 rfl rfl ?_
    have hb := g_ck hf
    replace hf := g_in hb hf
    refine g_aald (pc' := 15) C d_OL_element_14 rfl 1 rfl hb he_p1 ?_
    refine g_iload_n (pc' := 16) C 2 d_OL_element_15 rfl rfl ?_
    replace hf := g_bi hf; obtain ⟨r3, hc4, hf⟩ := hf
    refine g_callV (pc' := 19) (st1 := [.long r3]) (ws1 := [O_OL a_o a_o_wall a_o_imageOfWall x_o_imageIsKept a_o_rules a_o_tape a_o_costs a_o_thought a_o_acts a_o_shelves, A_Q dA a_o_shelves 6 x_o_shelves, O_Sh a_o_shelves_ep1 x_o_shelves_ep1_holds x_o_shelves_ep1_body x_o_shelves_ep1_sort x_o_shelves_ep1_length a_o_shelves_ep1_elements, A_J dA a_o_shelves_ep1_elements 60 x_o_shelves_ep1_elements]) C (c_Sh_elementAt (l := l) (D := D) (dA := dA) (a_o := a_o_shelves_ep1) (a_o_elements := a_o_shelves_ep1_elements) (x_o_body := x_o_shelves_ep1_body) (x_o_sort := x_o_shelves_ep1_sort)   hc4) yy_Sh_elementAt kf_Sh rfl mw_2_114 d_OL_element_16 rfl [] rfl rfl (Nat.le_of_ble_eq_true rfl) ⟨Nat.le_of_ble_eq_true rfl, Nat.le_of_ble_eq_true rfl⟩ rfl rfl (Nat.zero_le _) (Nat.zero_le _) 2 rfl [2, 3] rfl (by decide +kernel) rfl (g_lay_sel _ _ _ _ [(0, false), (1, false), (0, true), (1, true)] (by decide +kernel) rfl (by decide +kernel) rfl rfl) rfl ?_
    refine g_goto (tgt := 25) C d_OL_element_19 rfl ?_
    replace hf := Option.some.inj hf; subst hf
    exact g_lret C d_OL_element_25 () rfl
def y_OL_shift : MethodName := ⟨"OneLamp", "shift", "(IIIII)I"⟩
theorem yy_OL_shift : YV y_OL_shift prog_1_method_34_code 8 (some .int) 5 := ⟨mw_4_106, mw_1_1, mw_4_104, mw_4_105, by decide +kernel, by decide +kernel, by decide +kernel⟩
theorem d_OL_shift_0 : decode prog_1_method_34_code 0 = .ok (.iload_n 1, 1) := by decide +kernel
theorem d_OL_shift_1 : decode prog_1_method_34_code 1 = .ok (.invokestatic 88, 3) := by decide +kernel
theorem d_OL_shift_4 : decode prog_1_method_34_code 4 = .ok (.ifCond .eq 10, 3) := by decide +kernel
theorem d_OL_shift_7 : decode prog_1_method_34_code 7 = .ok (.iload_n 3, 1) := by decide +kernel
theorem d_OL_shift_8 : decode prog_1_method_34_code 8 = .ok (.invokestatic 88, 3) := by decide +kernel
theorem d_OL_shift_11 : decode prog_1_method_34_code 11 = .ok (.ifCond .ne 5, 3) := by decide +kernel
theorem d_OL_shift_14 : decode prog_1_method_34_code 14 = .ok (.iconst (-1), 1) := by decide +kernel
theorem d_OL_shift_15 : decode prog_1_method_34_code 15 = .ok (.ireturn, 1) := by decide +kernel
theorem d_OL_shift_16 : decode prog_1_method_34_code 16 = .ok (.aload_n 0, 1) := by decide +kernel
theorem d_OL_shift_17 : decode prog_1_method_34_code 17 = .ok (.getfield 56, 3) := by decide +kernel
theorem d_OL_shift_20 : decode prog_1_method_34_code 20 = .ok (.iload_n 1, 1) := by decide +kernel
theorem d_OL_shift_21 : decode prog_1_method_34_code 21 = .ok (.aaload, 1) := by decide +kernel
theorem d_OL_shift_22 : decode prog_1_method_34_code 22 = .ok (.astore 6, 2) := by decide +kernel
theorem d_OL_shift_24 : decode prog_1_method_34_code 24 = .ok (.aload_n 0, 1) := by decide +kernel
theorem d_OL_shift_25 : decode prog_1_method_34_code 25 = .ok (.getfield 56, 3) := by decide +kernel
theorem d_OL_shift_28 : decode prog_1_method_34_code 28 = .ok (.iload_n 3, 1) := by decide +kernel
theorem d_OL_shift_29 : decode prog_1_method_34_code 29 = .ok (.aaload, 1) := by decide +kernel
theorem d_OL_shift_30 : decode prog_1_method_34_code 30 = .ok (.astore 7, 2) := by decide +kernel
theorem d_OL_shift_32 : decode prog_1_method_34_code 32 = .ok (.aload 6, 2) := by decide +kernel
theorem d_OL_shift_34 : decode prog_1_method_34_code 34 = .ok (.invokevirtual 91, 3) := by decide +kernel
theorem d_OL_shift_37 : decode prog_1_method_34_code 37 = .ok (.ifCond .ne 11, 3) := by decide +kernel
theorem d_OL_shift_40 : decode prog_1_method_34_code 40 = .ok (.aload 7, 2) := by decide +kernel
theorem d_OL_shift_42 : decode prog_1_method_34_code 42 = .ok (.invokevirtual 91, 3) := by decide +kernel
theorem d_OL_shift_45 : decode prog_1_method_34_code 45 = .ok (.ifCond .eq 6, 3) := by decide +kernel
theorem d_OL_shift_48 : decode prog_1_method_34_code 48 = .ok (.bipush (-11), 2) := by decide +kernel
theorem d_OL_shift_50 : decode prog_1_method_34_code 50 = .ok (.ireturn, 1) := by decide +kernel
theorem d_OL_shift_51 : decode prog_1_method_34_code 51 = .ok (.aload 6, 2) := by decide +kernel
theorem d_OL_shift_53 : decode prog_1_method_34_code 53 = .ok (.invokevirtual 283, 3) := by decide +kernel
theorem d_OL_shift_56 : decode prog_1_method_34_code 56 = .ok (.ifCond .eq 16, 3) := by decide +kernel
theorem d_OL_shift_59 : decode prog_1_method_34_code 59 = .ok (.aload 7, 2) := by decide +kernel
theorem d_OL_shift_61 : decode prog_1_method_34_code 61 = .ok (.aload 6, 2) := by decide +kernel
theorem d_OL_shift_63 : decode prog_1_method_34_code 63 = .ok (.getfield 286, 3) := by decide +kernel
theorem d_OL_shift_66 : decode prog_1_method_34_code 66 = .ok (.invokevirtual 95, 3) := by decide +kernel
theorem d_OL_shift_69 : decode prog_1_method_34_code 69 = .ok (.ifCond .ne 6, 3) := by decide +kernel
theorem d_OL_shift_72 : decode prog_1_method_34_code 72 = .ok (.bipush (-12), 2) := by decide +kernel
theorem d_OL_shift_74 : decode prog_1_method_34_code 74 = .ok (.ireturn, 1) := by decide +kernel
theorem d_OL_shift_75 : decode prog_1_method_34_code 75 = .ok (.aload 6, 2) := by decide +kernel
theorem d_OL_shift_77 : decode prog_1_method_34_code 77 = .ok (.iload_n 2, 1) := by decide +kernel
theorem d_OL_shift_78 : decode prog_1_method_34_code 78 = .ok (.iload 5, 2) := by decide +kernel
theorem d_OL_shift_80 : decode prog_1_method_34_code 80 = .ok (.invokevirtual 289, 3) := by decide +kernel
theorem d_OL_shift_83 : decode prog_1_method_34_code 83 = .ok (.ifCond .eq 15, 3) := by decide +kernel
theorem d_OL_shift_86 : decode prog_1_method_34_code 86 = .ok (.aload 7, 2) := by decide +kernel
theorem d_OL_shift_88 : decode prog_1_method_34_code 88 = .ok (.iload 4, 2) := by decide +kernel
theorem d_OL_shift_90 : decode prog_1_method_34_code 90 = .ok (.iload 5, 2) := by decide +kernel
theorem d_OL_shift_92 : decode prog_1_method_34_code 92 = .ok (.invokevirtual 289, 3) := by decide +kernel
theorem d_OL_shift_95 : decode prog_1_method_34_code 95 = .ok (.ifCond .ne 6, 3) := by decide +kernel
theorem d_OL_shift_98 : decode prog_1_method_34_code 98 = .ok (.bipush (-13), 2) := by decide +kernel
theorem d_OL_shift_100 : decode prog_1_method_34_code 100 = .ok (.ireturn, 1) := by decide +kernel
theorem d_OL_shift_101 : decode prog_1_method_34_code 101 = .ok (.aload 7, 2) := by decide +kernel
theorem d_OL_shift_103 : decode prog_1_method_34_code 103 = .ok (.aload 6, 2) := by decide +kernel
theorem d_OL_shift_105 : decode prog_1_method_34_code 105 = .ok (.iload_n 2, 1) := by decide +kernel
theorem d_OL_shift_106 : decode prog_1_method_34_code 106 = .ok (.iload 4, 2) := by decide +kernel
theorem d_OL_shift_108 : decode prog_1_method_34_code 108 = .ok (.iload 5, 2) := by decide +kernel
theorem d_OL_shift_110 : decode prog_1_method_34_code 110 = .ok (.invokevirtual 293, 3) := by decide +kernel
theorem d_OL_shift_113 : decode prog_1_method_34_code 113 = .ok (.iload 5, 2) := by decide +kernel
theorem d_OL_shift_115 : decode prog_1_method_34_code 115 = .ok (.ireturn, 1) := by decide +kernel
def f_OL_shift  (p1 : Int32) (p2 : Int32) (p3 : Int32) (p4 : Int32) (p5 : Int32) (x_o_shelves_ep1_holds : Int32) (x_o_shelves_ep1_sort : Int32) (x_o_shelves_ep1_length : Int32) (x_o_shelves_ep3_holds : Int32) (x_o_shelves_ep3_sort : Int32) (x_o_shelves_ep3_length : Int32) (x_o_shelves_ep1_elements : Nat → Int64) (x_o_shelves_ep3_elements : Nat → Int64) : Option (Int32 × (Nat → Int64)) :=
  (f_OL_isShelf  p1).bind fun r1 =>
  if r1 = true then
    ((f_OL_isShelf  p3).bind fun r3 =>
    if r3 = true then
      (if p1 < 0 ∨ 6 ≤ Int32.toNatClampNeg p1 then none else
      if p3 < 0 ∨ 6 ≤ Int32.toNatClampNeg p3 then none else
      (f_Sh_isEmpty  x_o_shelves_ep1_holds).bind fun r5 =>
      if r5 = true then
        (some ((-11 : Int32), x_o_shelves_ep3_elements))
      else
        ((f_Sh_isEmpty  x_o_shelves_ep3_holds).bind fun r7 =>
        if r7 = true then
          (some ((-11 : Int32), x_o_shelves_ep3_elements))
        else
          ((f_Sh_isRow  x_o_shelves_ep1_holds).bind fun r9 =>
          if r9 = true then
            ((f_Sh_isRowOf  x_o_shelves_ep1_sort x_o_shelves_ep3_holds x_o_shelves_ep3_sort).bind fun r11 =>
            if r11 = true then
              ((f_Sh_hasPlaces  p2 p5 x_o_shelves_ep1_length).bind fun r13 =>
              if r13 = true then
                ((f_Sh_hasPlaces  p4 p5 x_o_shelves_ep3_length).bind fun r15 =>
                if r15 = true then
                  ((f_Sh_take  p2 p4 p5 x_o_shelves_ep1_length x_o_shelves_ep3_length x_o_shelves_ep1_elements x_o_shelves_ep3_elements).bind fun u17 =>
                  some (p5, u17))
                else
                  (some ((-13 : Int32), x_o_shelves_ep3_elements)))
              else
                (some ((-13 : Int32), x_o_shelves_ep3_elements)))
            else
              (some ((-12 : Int32), x_o_shelves_ep3_elements)))
          else
            (some ((-12 : Int32), x_o_shelves_ep3_elements)))))
    else
      (some ((-1 : Int32), x_o_shelves_ep3_elements)))
  else
    (some ((-1 : Int32), x_o_shelves_ep3_elements))
set_option maxRecDepth 20000 in
theorem c_OL_shift {l : Launch} {D : va_G} {dA : Nat → ClassId} {a_o a_o_wall a_o_imageOfWall a_o_rules a_o_tape a_o_costs a_o_thought a_o_acts a_o_shelves a_o_shelves_ep1 a_o_shelves_ep1_elements a_o_shelves_ep3 a_o_shelves_ep3_elements : Nat} {x_o_imageIsKept : Bool} {x_o_shelves : Nat → Option Nat} {x_o_shelves_ep1_body : Int32} {x_o_shelves_ep3_body : Int32} {p1 : Int32} {p2 : Int32} {p3 : Int32} {p4 : Int32} {p5 : Int32} {x_o_shelves_ep1_holds : Int32} {x_o_shelves_ep1_sort : Int32} {x_o_shelves_ep1_length : Int32} {x_o_shelves_ep3_holds : Int32} {x_o_shelves_ep3_sort : Int32} {x_o_shelves_ep3_length : Int32} {x_o_shelves_ep1_elements : Nat → Int64} {x_o_shelves_ep3_elements : Nat → Int64} {r0 : Int32} {o_x_o_shelves_ep3_elements : Nat → Int64}  (he_p1 : x_o_shelves (Int32.toNatClampNeg p1) = some a_o_shelves_ep1) (he_p3 : x_o_shelves (Int32.toNatClampNeg p3) = some a_o_shelves_ep3) (hf : f_OL_shift  p1 p2 p3 p4 p5 x_o_shelves_ep1_holds x_o_shelves_ep1_sort x_o_shelves_ep1_length x_o_shelves_ep3_holds x_o_shelves_ep3_sort x_o_shelves_ep3_length x_o_shelves_ep1_elements x_o_shelves_ep3_elements = some (r0, o_x_o_shelves_ep3_elements)) : CT l y_OL_shift prog_1_method_34_code 8 (some .int) { frames := 2, cells := 0, slots := 0, locals := 64 } D dA [.ref a_o, .int p1, .int p2, .int p3, .int p4, .int p5] [O_OL a_o a_o_wall a_o_imageOfWall x_o_imageIsKept a_o_rules a_o_tape a_o_costs a_o_thought a_o_acts a_o_shelves, A_Q dA a_o_shelves 6 x_o_shelves, O_Sh a_o_shelves_ep1 x_o_shelves_ep1_holds x_o_shelves_ep1_body x_o_shelves_ep1_sort x_o_shelves_ep1_length a_o_shelves_ep1_elements, O_Sh a_o_shelves_ep3 x_o_shelves_ep3_holds x_o_shelves_ep3_body x_o_shelves_ep3_sort x_o_shelves_ep3_length a_o_shelves_ep3_elements, A_J dA a_o_shelves_ep1_elements 60 x_o_shelves_ep1_elements, A_J dA a_o_shelves_ep3_elements 60 x_o_shelves_ep3_elements] (some (.int r0)) (fun _ : Unit => [O_OL a_o a_o_wall a_o_imageOfWall x_o_imageIsKept a_o_rules a_o_tape a_o_costs a_o_thought a_o_acts a_o_shelves, A_Q dA a_o_shelves 6 x_o_shelves, O_Sh a_o_shelves_ep1 x_o_shelves_ep1_holds x_o_shelves_ep1_body x_o_shelves_ep1_sort x_o_shelves_ep1_length a_o_shelves_ep1_elements, O_Sh a_o_shelves_ep3 x_o_shelves_ep3_holds x_o_shelves_ep3_body x_o_shelves_ep3_sort x_o_shelves_ep3_length a_o_shelves_ep3_elements, A_J dA a_o_shelves_ep1_elements 60 x_o_shelves_ep1_elements, A_J dA a_o_shelves_ep3_elements 60 o_x_o_shelves_ep3_elements]) := by
  refine ct_intro "OneLamp" rfl (by decide +kernel) (Nat.le_of_ble_eq_true rfl) [(0, .ref a_o), (1, .int p1), (2, .int p2), (3, .int p3), (4, .int p4), (5, .int p5)] rfl (fun _ C => ?_)
  unfold f_OL_shift at hf
  refine g_iload_n (pc' := 1) C 1 d_OL_shift_0 rfl rfl ?_
  replace hf := g_bi hf; obtain ⟨r1, hc2, hf⟩ := hf
  refine g_callS (pc' := 4) (st1 := [.int (b2i r1)]) (ws1 := [O_OL a_o a_o_wall a_o_imageOfWall x_o_imageIsKept a_o_rules a_o_tape a_o_costs a_o_thought a_o_acts a_o_shelves, A_Q dA a_o_shelves 6 x_o_shelves, O_Sh a_o_shelves_ep1 x_o_shelves_ep1_holds x_o_shelves_ep1_body x_o_shelves_ep1_sort x_o_shelves_ep1_length a_o_shelves_ep1_elements, O_Sh a_o_shelves_ep3 x_o_shelves_ep3_holds x_o_shelves_ep3_body x_o_shelves_ep3_sort x_o_shelves_ep3_length a_o_shelves_ep3_elements, A_J dA a_o_shelves_ep1_elements 60 x_o_shelves_ep1_elements, A_J dA a_o_shelves_ep3_elements 60 x_o_shelves_ep3_elements]) C (c_OL_isShelf (l := l) (D := D) (dA := dA)    hc2) yy_OL_isShelf mw_2_99 d_OL_shift_1 rfl [] rfl rfl (Nat.le_of_ble_eq_true rfl) ⟨Nat.le_of_ble_eq_true rfl, Nat.le_of_ble_eq_true rfl⟩ rfl rfl (Nat.zero_le _) (Nat.zero_le _) [] rfl (by decide +kernel) rfl (g_lay_sel _ _ _ _ [(0, false), (1, false), (2, false), (3, false), (4, false), (5, false)] (by decide +kernel) rfl (by decide +kernel) rfl rfl) rfl ?_
  refine g_if_eqb (pc' := 7) (tgt := 14) C d_OL_shift_4 rfl rfl (fun h => ?_) (fun h => ?_)
  · replace hf := g_bf h hf
    refine g_iconst (pc' := 15) (v := (-1)) C d_OL_shift_14 rfl rfl ?_
    replace hf := g_o2 hf; obtain ⟨h1, hf⟩ := hf; subst h1
    replace hf := Option.some.inj hf; subst hf
    exact g_iret C d_OL_shift_15 () rfl
  · replace hf := g_bt h hf
    refine g_iload_n (pc' := 8) C 3 d_OL_shift_7 rfl rfl ?_
    replace hf := g_bi hf; obtain ⟨r3, hc4, hf⟩ := hf
    refine g_callS (pc' := 11) (st1 := [.int (b2i r3)]) (ws1 := [O_OL a_o a_o_wall a_o_imageOfWall x_o_imageIsKept a_o_rules a_o_tape a_o_costs a_o_thought a_o_acts a_o_shelves, A_Q dA a_o_shelves 6 x_o_shelves, O_Sh a_o_shelves_ep1 x_o_shelves_ep1_holds x_o_shelves_ep1_body x_o_shelves_ep1_sort x_o_shelves_ep1_length a_o_shelves_ep1_elements, O_Sh a_o_shelves_ep3 x_o_shelves_ep3_holds x_o_shelves_ep3_body x_o_shelves_ep3_sort x_o_shelves_ep3_length a_o_shelves_ep3_elements, A_J dA a_o_shelves_ep1_elements 60 x_o_shelves_ep1_elements, A_J dA a_o_shelves_ep3_elements 60 x_o_shelves_ep3_elements]) C (c_OL_isShelf (l := l) (D := D) (dA := dA)    hc4) yy_OL_isShelf mw_2_99 d_OL_shift_8 rfl [] rfl rfl (Nat.le_of_ble_eq_true rfl) ⟨Nat.le_of_ble_eq_true rfl, Nat.le_of_ble_eq_true rfl⟩ rfl rfl (Nat.zero_le _) (Nat.zero_le _) [] rfl (by decide +kernel) rfl (g_lay_sel _ _ _ _ [(0, false), (1, false), (2, false), (3, false), (4, false), (5, false)] (by decide +kernel) rfl (by decide +kernel) rfl rfl) rfl ?_
    refine g_if_neb (pc' := 14) (tgt := 16) C d_OL_shift_11 rfl rfl (fun h => ?_) (fun h => ?_)
    · replace hf := g_bt h hf
      refine g_aload_n (pc' := 17) C 0 d_OL_shift_16 rfl rfl ?_
      refine g_get (pc' := 20) C kf_OL 8 mw_2_52 d_OL_shift_17 rfl 0 rfl (by decide) rfl ?_
      refine g_iload_n (pc' := 21) C 1 d_OL_shift_20 rfl rfl ?_
      have hb := g_ck hf
      replace hf := g_in hb hf
      refine g_aald (pc' := 22) C d_OL_shift_21 rfl 1 rfl hb he_p1 ?_
      refine g_astore (pc' := 24) (lv' := [(6, .ref a_o_shelves_ep1), (0, .ref a_o), (1, .int p1), (2, .int p2), (3, .int p3), (4, .int p4), (5, .int p5)]) C d_OL_shift_22 rfl (by decide) rfl ?_
      refine g_aload_n (pc' := 25) C 1 d_OL_shift_24 rfl rfl ?_
      refine g_get (pc' := 28) C kf_OL 8 mw_2_52 d_OL_shift_25 rfl 0 rfl (by decide) rfl ?_
      refine g_iload_n (pc' := 29) C 4 d_OL_shift_28 rfl rfl ?_
      have hb := g_ck hf
      replace hf := g_in hb hf
      refine g_aald (pc' := 30) C d_OL_shift_29 rfl 1 rfl hb he_p3 ?_
      refine g_astore (pc' := 32) (lv' := [(7, .ref a_o_shelves_ep3), (6, .ref a_o_shelves_ep1), (0, .ref a_o), (1, .int p1), (2, .int p2), (3, .int p3), (4, .int p4), (5, .int p5)]) C d_OL_shift_30 rfl (by decide) rfl ?_
      refine g_aload (pc' := 34) C 1 d_OL_shift_32 rfl rfl ?_
      replace hf := g_bi hf; obtain ⟨r5, hc6, hf⟩ := hf
      refine g_callV (pc' := 37) (st1 := [.int (b2i r5)]) (ws1 := [O_OL a_o a_o_wall a_o_imageOfWall x_o_imageIsKept a_o_rules a_o_tape a_o_costs a_o_thought a_o_acts a_o_shelves, A_Q dA a_o_shelves 6 x_o_shelves, O_Sh a_o_shelves_ep1 x_o_shelves_ep1_holds x_o_shelves_ep1_body x_o_shelves_ep1_sort x_o_shelves_ep1_length a_o_shelves_ep1_elements, O_Sh a_o_shelves_ep3 x_o_shelves_ep3_holds x_o_shelves_ep3_body x_o_shelves_ep3_sort x_o_shelves_ep3_length a_o_shelves_ep3_elements, A_J dA a_o_shelves_ep1_elements 60 x_o_shelves_ep1_elements, A_J dA a_o_shelves_ep3_elements 60 x_o_shelves_ep3_elements]) C (c_Sh_isEmpty (l := l) (D := D) (dA := dA) (a_o := a_o_shelves_ep1) (a_o_elements := a_o_shelves_ep1_elements) (x_o_body := x_o_shelves_ep1_body) (x_o_sort := x_o_shelves_ep1_sort) (x_o_length := x_o_shelves_ep1_length)   hc6) yy_Sh_isEmpty kf_Sh rfl mw_2_102 d_OL_shift_34 rfl [] rfl rfl (Nat.le_of_ble_eq_true rfl) ⟨Nat.le_of_ble_eq_true rfl, Nat.le_of_ble_eq_true rfl⟩ rfl rfl (Nat.zero_le _) (Nat.zero_le _) 2 rfl [2] rfl (by decide +kernel) rfl (g_lay_sel _ _ _ _ [(0, false), (1, false), (0, true), (3, false), (4, false), (5, false)] (by decide +kernel) rfl (by decide +kernel) rfl rfl) rfl ?_
      refine g_if_neb (pc' := 40) (tgt := 48) C d_OL_shift_37 rfl rfl (fun h => ?_) (fun h => ?_)
      · replace hf := g_bt h hf
        refine g_bipush (pc' := 50) (v := (-11)) C d_OL_shift_48 rfl rfl ?_
        replace hf := g_o2 hf; obtain ⟨h1, hf⟩ := hf; subst h1
        replace hf := Option.some.inj hf; subst hf
        exact g_iret C d_OL_shift_50 () rfl
      · replace hf := g_bf h hf
        refine g_aload (pc' := 42) C 0 d_OL_shift_40 rfl rfl ?_
        replace hf := g_bi hf; obtain ⟨r7, hc8, hf⟩ := hf
        refine g_callV (pc' := 45) (st1 := [.int (b2i r7)]) (ws1 := [O_OL a_o a_o_wall a_o_imageOfWall x_o_imageIsKept a_o_rules a_o_tape a_o_costs a_o_thought a_o_acts a_o_shelves, A_Q dA a_o_shelves 6 x_o_shelves, O_Sh a_o_shelves_ep1 x_o_shelves_ep1_holds x_o_shelves_ep1_body x_o_shelves_ep1_sort x_o_shelves_ep1_length a_o_shelves_ep1_elements, O_Sh a_o_shelves_ep3 x_o_shelves_ep3_holds x_o_shelves_ep3_body x_o_shelves_ep3_sort x_o_shelves_ep3_length a_o_shelves_ep3_elements, A_J dA a_o_shelves_ep1_elements 60 x_o_shelves_ep1_elements, A_J dA a_o_shelves_ep3_elements 60 x_o_shelves_ep3_elements]) C (c_Sh_isEmpty (l := l) (D := D) (dA := dA) (a_o := a_o_shelves_ep3) (a_o_elements := a_o_shelves_ep3_elements) (x_o_body := x_o_shelves_ep3_body) (x_o_sort := x_o_shelves_ep3_sort) (x_o_length := x_o_shelves_ep3_length)   hc8) yy_Sh_isEmpty kf_Sh rfl mw_2_102 d_OL_shift_42 rfl [] rfl rfl (Nat.le_of_ble_eq_true rfl) ⟨Nat.le_of_ble_eq_true rfl, Nat.le_of_ble_eq_true rfl⟩ rfl rfl (Nat.zero_le _) (Nat.zero_le _) 3 rfl [3] rfl (by decide +kernel) rfl (g_lay_sel _ _ _ _ [(0, false), (1, false), (2, false), (0, true), (4, false), (5, false)] (by decide +kernel) rfl (by decide +kernel) rfl rfl) rfl ?_
        refine g_if_eqb (pc' := 48) (tgt := 51) C d_OL_shift_45 rfl rfl (fun h => ?_) (fun h => ?_)
        · replace hf := g_bf h hf
          refine g_aload (pc' := 53) C 1 d_OL_shift_51 rfl rfl ?_
          replace hf := g_bi hf; obtain ⟨r9, hc10, hf⟩ := hf
          refine g_callV (pc' := 56) (st1 := [.int (b2i r9)]) (ws1 := [O_OL a_o a_o_wall a_o_imageOfWall x_o_imageIsKept a_o_rules a_o_tape a_o_costs a_o_thought a_o_acts a_o_shelves, A_Q dA a_o_shelves 6 x_o_shelves, O_Sh a_o_shelves_ep1 x_o_shelves_ep1_holds x_o_shelves_ep1_body x_o_shelves_ep1_sort x_o_shelves_ep1_length a_o_shelves_ep1_elements, O_Sh a_o_shelves_ep3 x_o_shelves_ep3_holds x_o_shelves_ep3_body x_o_shelves_ep3_sort x_o_shelves_ep3_length a_o_shelves_ep3_elements, A_J dA a_o_shelves_ep1_elements 60 x_o_shelves_ep1_elements, A_J dA a_o_shelves_ep3_elements 60 x_o_shelves_ep3_elements]) C (c_Sh_isRow (l := l) (D := D) (dA := dA) (a_o := a_o_shelves_ep1) (a_o_elements := a_o_shelves_ep1_elements) (x_o_body := x_o_shelves_ep1_body) (x_o_sort := x_o_shelves_ep1_sort) (x_o_length := x_o_shelves_ep1_length)   hc10) yy_Sh_isRow kf_Sh rfl mw_4_86 d_OL_shift_53 rfl [] rfl rfl (Nat.le_of_ble_eq_true rfl) ⟨Nat.le_of_ble_eq_true rfl, Nat.le_of_ble_eq_true rfl⟩ rfl rfl (Nat.zero_le _) (Nat.zero_le _) 2 rfl [2] rfl (by decide +kernel) rfl (g_lay_sel _ _ _ _ [(0, false), (1, false), (0, true), (3, false), (4, false), (5, false)] (by decide +kernel) rfl (by decide +kernel) rfl rfl) rfl ?_
          refine g_if_eqb (pc' := 59) (tgt := 72) C d_OL_shift_56 rfl rfl (fun h => ?_) (fun h => ?_)
          · replace hf := g_bf h hf
            refine g_bipush (pc' := 74) (v := (-12)) C d_OL_shift_72 rfl rfl ?_
            replace hf := g_o2 hf; obtain ⟨h1, hf⟩ := hf; subst h1
            replace hf := Option.some.inj hf; subst hf
            exact g_iret C d_OL_shift_74 () rfl
          · replace hf := g_bt h hf
            refine g_aload (pc' := 61) C 0 d_OL_shift_59 rfl rfl ?_
            refine g_aload (pc' := 63) C 1 d_OL_shift_61 rfl rfl ?_
            refine g_get (pc' := 66) C kf_Sh 2 mw_2_29 d_OL_shift_63 rfl 2 rfl (by decide) rfl ?_
            replace hf := g_bi hf; obtain ⟨r11, hc12, hf⟩ := hf
            refine g_callV (pc' := 69) (st1 := [.int (b2i r11)]) (ws1 := [O_OL a_o a_o_wall a_o_imageOfWall x_o_imageIsKept a_o_rules a_o_tape a_o_costs a_o_thought a_o_acts a_o_shelves, A_Q dA a_o_shelves 6 x_o_shelves, O_Sh a_o_shelves_ep1 x_o_shelves_ep1_holds x_o_shelves_ep1_body x_o_shelves_ep1_sort x_o_shelves_ep1_length a_o_shelves_ep1_elements, O_Sh a_o_shelves_ep3 x_o_shelves_ep3_holds x_o_shelves_ep3_body x_o_shelves_ep3_sort x_o_shelves_ep3_length a_o_shelves_ep3_elements, A_J dA a_o_shelves_ep1_elements 60 x_o_shelves_ep1_elements, A_J dA a_o_shelves_ep3_elements 60 x_o_shelves_ep3_elements]) C (c_Sh_isRowOf (l := l) (D := D) (dA := dA) (a_o := a_o_shelves_ep3) (a_o_elements := a_o_shelves_ep3_elements) (x_o_body := x_o_shelves_ep3_body) (x_o_length := x_o_shelves_ep3_length)   hc12) yy_Sh_isRowOf kf_Sh rfl mw_2_106 d_OL_shift_66 rfl [] rfl rfl (Nat.le_of_ble_eq_true rfl) ⟨Nat.le_of_ble_eq_true rfl, Nat.le_of_ble_eq_true rfl⟩ rfl rfl (Nat.zero_le _) (Nat.zero_le _) 3 rfl [3] rfl (by decide +kernel) rfl (g_lay_sel _ _ _ _ [(0, false), (1, false), (2, false), (0, true), (4, false), (5, false)] (by decide +kernel) rfl (by decide +kernel) rfl rfl) rfl ?_
            refine g_if_neb (pc' := 72) (tgt := 75) C d_OL_shift_69 rfl rfl (fun h => ?_) (fun h => ?_)
            · replace hf := g_bt h hf
              refine g_aload (pc' := 77) C 1 d_OL_shift_75 rfl rfl ?_
              refine g_iload_n (pc' := 78) C 4 d_OL_shift_77 rfl rfl ?_
              refine g_iload (pc' := 80) C 7 d_OL_shift_78 rfl rfl ?_
              replace hf := g_bi hf; obtain ⟨r13, hc14, hf⟩ := hf
              refine g_callV (pc' := 83) (st1 := [.int (b2i r13)]) (ws1 := [O_OL a_o a_o_wall a_o_imageOfWall x_o_imageIsKept a_o_rules a_o_tape a_o_costs a_o_thought a_o_acts a_o_shelves, A_Q dA a_o_shelves 6 x_o_shelves, O_Sh a_o_shelves_ep1 x_o_shelves_ep1_holds x_o_shelves_ep1_body x_o_shelves_ep1_sort x_o_shelves_ep1_length a_o_shelves_ep1_elements, O_Sh a_o_shelves_ep3 x_o_shelves_ep3_holds x_o_shelves_ep3_body x_o_shelves_ep3_sort x_o_shelves_ep3_length a_o_shelves_ep3_elements, A_J dA a_o_shelves_ep1_elements 60 x_o_shelves_ep1_elements, A_J dA a_o_shelves_ep3_elements 60 x_o_shelves_ep3_elements]) C (c_Sh_hasPlaces (l := l) (D := D) (dA := dA) (a_o := a_o_shelves_ep1) (a_o_elements := a_o_shelves_ep1_elements) (x_o_holds := x_o_shelves_ep1_holds) (x_o_body := x_o_shelves_ep1_body) (x_o_sort := x_o_shelves_ep1_sort)   hc14) yy_Sh_hasPlaces kf_Sh rfl mw_4_107 d_OL_shift_80 rfl [] rfl rfl (Nat.le_of_ble_eq_true rfl) ⟨Nat.le_of_ble_eq_true rfl, Nat.le_of_ble_eq_true rfl⟩ rfl rfl (Nat.zero_le _) (Nat.zero_le _) 2 rfl [2] rfl (by decide +kernel) rfl (g_lay_sel _ _ _ _ [(0, false), (1, false), (0, true), (3, false), (4, false), (5, false)] (by decide +kernel) rfl (by decide +kernel) rfl rfl) rfl ?_
              refine g_if_eqb (pc' := 86) (tgt := 98) C d_OL_shift_83 rfl rfl (fun h => ?_) (fun h => ?_)
              · replace hf := g_bf h hf
                refine g_bipush (pc' := 100) (v := (-13)) C d_OL_shift_98 rfl rfl ?_
                replace hf := g_o2 hf; obtain ⟨h1, hf⟩ := hf; subst h1
                replace hf := Option.some.inj hf; subst hf
                exact g_iret C d_OL_shift_100 () rfl
              · replace hf := g_bt h hf
                refine g_aload (pc' := 88) C 0 d_OL_shift_86 rfl rfl ?_
                refine g_iload (pc' := 90) C 6 d_OL_shift_88 rfl rfl ?_
                refine g_iload (pc' := 92) C 7 d_OL_shift_90 rfl rfl ?_
                replace hf := g_bi hf; obtain ⟨r15, hc16, hf⟩ := hf
                refine g_callV (pc' := 95) (st1 := [.int (b2i r15)]) (ws1 := [O_OL a_o a_o_wall a_o_imageOfWall x_o_imageIsKept a_o_rules a_o_tape a_o_costs a_o_thought a_o_acts a_o_shelves, A_Q dA a_o_shelves 6 x_o_shelves, O_Sh a_o_shelves_ep1 x_o_shelves_ep1_holds x_o_shelves_ep1_body x_o_shelves_ep1_sort x_o_shelves_ep1_length a_o_shelves_ep1_elements, O_Sh a_o_shelves_ep3 x_o_shelves_ep3_holds x_o_shelves_ep3_body x_o_shelves_ep3_sort x_o_shelves_ep3_length a_o_shelves_ep3_elements, A_J dA a_o_shelves_ep1_elements 60 x_o_shelves_ep1_elements, A_J dA a_o_shelves_ep3_elements 60 x_o_shelves_ep3_elements]) C (c_Sh_hasPlaces (l := l) (D := D) (dA := dA) (a_o := a_o_shelves_ep3) (a_o_elements := a_o_shelves_ep3_elements) (x_o_holds := x_o_shelves_ep3_holds) (x_o_body := x_o_shelves_ep3_body) (x_o_sort := x_o_shelves_ep3_sort)   hc16) yy_Sh_hasPlaces kf_Sh rfl mw_4_107 d_OL_shift_92 rfl [] rfl rfl (Nat.le_of_ble_eq_true rfl) ⟨Nat.le_of_ble_eq_true rfl, Nat.le_of_ble_eq_true rfl⟩ rfl rfl (Nat.zero_le _) (Nat.zero_le _) 3 rfl [3] rfl (by decide +kernel) rfl (g_lay_sel _ _ _ _ [(0, false), (1, false), (2, false), (0, true), (4, false), (5, false)] (by decide +kernel) rfl (by decide +kernel) rfl rfl) rfl ?_
                refine g_if_neb (pc' := 98) (tgt := 101) C d_OL_shift_95 rfl rfl (fun h => ?_) (fun h => ?_)
                · replace hf := g_bt h hf
                  refine g_aload (pc' := 103) C 0 d_OL_shift_101 rfl rfl ?_
                  refine g_aload (pc' := 105) C 1 d_OL_shift_103 rfl rfl ?_
                  refine g_iload_n (pc' := 106) C 4 d_OL_shift_105 rfl rfl ?_
                  refine g_iload (pc' := 108) C 6 d_OL_shift_106 rfl rfl ?_
                  refine g_iload (pc' := 110) C 7 d_OL_shift_108 rfl rfl ?_
                  replace hf := g_bi hf; obtain ⟨u17, hc18, hf⟩ := hf
                  refine g_callV (pc' := 113) (st1 := []) (ws1 := [O_OL a_o a_o_wall a_o_imageOfWall x_o_imageIsKept a_o_rules a_o_tape a_o_costs a_o_thought a_o_acts a_o_shelves, A_Q dA a_o_shelves 6 x_o_shelves, O_Sh a_o_shelves_ep1 x_o_shelves_ep1_holds x_o_shelves_ep1_body x_o_shelves_ep1_sort x_o_shelves_ep1_length a_o_shelves_ep1_elements, O_Sh a_o_shelves_ep3 x_o_shelves_ep3_holds x_o_shelves_ep3_body x_o_shelves_ep3_sort x_o_shelves_ep3_length a_o_shelves_ep3_elements, A_J dA a_o_shelves_ep1_elements 60 x_o_shelves_ep1_elements, A_J dA a_o_shelves_ep3_elements 60 u17]) C (c_Sh_take (l := l) (D := D) (dA := dA) (a_o := a_o_shelves_ep3) (a_p1 := a_o_shelves_ep1) (a_p1_elements := a_o_shelves_ep1_elements) (a_o_elements := a_o_shelves_ep3_elements) (x_p1_holds := x_o_shelves_ep1_holds) (x_p1_body := x_o_shelves_ep1_body) (x_p1_sort := x_o_shelves_ep1_sort) (x_o_holds := x_o_shelves_ep3_holds) (x_o_body := x_o_shelves_ep3_body) (x_o_sort := x_o_shelves_ep3_sort)   hc18) yy_Sh_take kf_Sh rfl mw_4_111 d_OL_shift_110 rfl [] rfl rfl (Nat.le_of_ble_eq_true rfl) ⟨Nat.le_of_ble_eq_true rfl, Nat.le_of_ble_eq_true rfl⟩ rfl rfl (Nat.zero_le _) (Nat.zero_le _) 3 rfl [2, 3, 4, 5] rfl (by decide +kernel) rfl (g_lay_sel _ _ _ _ [(0, false), (1, false), (0, true), (1, true), (2, true), (3, true)] (by decide +kernel) rfl (by decide +kernel) rfl rfl) rfl ?_
                  refine g_iload (pc' := 115) C 7 d_OL_shift_113 rfl rfl ?_
                  replace hf := g_o2 hf; obtain ⟨h1, hf⟩ := hf; subst h1
                  replace hf := Option.some.inj hf; subst hf
                  exact g_iret C d_OL_shift_115 () rfl
                · replace hf := g_bf h hf
                  refine g_bipush (pc' := 100) (v := (-13)) C d_OL_shift_98 rfl rfl ?_
                  replace hf := g_o2 hf; obtain ⟨h1, hf⟩ := hf; subst h1
                  replace hf := Option.some.inj hf; subst hf
                  exact g_iret C d_OL_shift_100 () rfl
            · replace hf := g_bf h hf
              refine g_bipush (pc' := 74) (v := (-12)) C d_OL_shift_72 rfl rfl ?_
              replace hf := g_o2 hf; obtain ⟨h1, hf⟩ := hf; subst h1
              replace hf := Option.some.inj hf; subst hf
              exact g_iret C d_OL_shift_74 () rfl
        · replace hf := g_bt h hf
          refine g_bipush (pc' := 50) (v := (-11)) C d_OL_shift_48 rfl rfl ?_
          replace hf := g_o2 hf; obtain ⟨h1, hf⟩ := hf; subst h1
          replace hf := Option.some.inj hf; subst hf
          exact g_iret C d_OL_shift_50 () rfl
    · replace hf := g_bf h hf
      refine g_iconst (pc' := 15) (v := (-1)) C d_OL_shift_14 rfl rfl ?_
      replace hf := g_o2 hf; obtain ⟨h1, hf⟩ := hf; subst h1
      replace hf := Option.some.inj hf; subst hf
      exact g_iret C d_OL_shift_15 () rfl
def f_OL_shift__same  (p1 : Int32) (p2 : Int32) (p3 : Int32) (p4 : Int32) (p5 : Int32) (x_o_shelves_ep1_holds : Int32) (x_o_shelves_ep1_sort : Int32) (x_o_shelves_ep1_length : Int32) (x_o_shelves_ep1_elements : Nat → Int64) : Option (Int32 × (Nat → Int64)) :=
  (f_OL_isShelf  p1).bind fun r1 =>
  if r1 = true then
    ((f_OL_isShelf  p3).bind fun r3 =>
    if r3 = true then
      (if p1 < 0 ∨ 6 ≤ Int32.toNatClampNeg p1 then none else
      if p3 < 0 ∨ 6 ≤ Int32.toNatClampNeg p3 then none else
      (f_Sh_isEmpty  x_o_shelves_ep1_holds).bind fun r5 =>
      if r5 = true then
        (some ((-11 : Int32), x_o_shelves_ep1_elements))
      else
        ((f_Sh_isEmpty  x_o_shelves_ep1_holds).bind fun r7 =>
        if r7 = true then
          (some ((-11 : Int32), x_o_shelves_ep1_elements))
        else
          ((f_Sh_isRow  x_o_shelves_ep1_holds).bind fun r9 =>
          if r9 = true then
            ((f_Sh_isRowOf  x_o_shelves_ep1_sort x_o_shelves_ep1_holds x_o_shelves_ep1_sort).bind fun r11 =>
            if r11 = true then
              ((f_Sh_hasPlaces  p2 p5 x_o_shelves_ep1_length).bind fun r13 =>
              if r13 = true then
                ((f_Sh_hasPlaces  p4 p5 x_o_shelves_ep1_length).bind fun r15 =>
                if r15 = true then
                  ((f_Sh_take__same  p2 p4 p5 x_o_shelves_ep1_length x_o_shelves_ep1_elements).bind fun u17 =>
                  some (p5, u17))
                else
                  (some ((-13 : Int32), x_o_shelves_ep1_elements)))
              else
                (some ((-13 : Int32), x_o_shelves_ep1_elements)))
            else
              (some ((-12 : Int32), x_o_shelves_ep1_elements)))
          else
            (some ((-12 : Int32), x_o_shelves_ep1_elements)))))
    else
      (some ((-1 : Int32), x_o_shelves_ep1_elements)))
  else
    (some ((-1 : Int32), x_o_shelves_ep1_elements))
set_option maxRecDepth 20000 in
theorem c_OL_shift__same {l : Launch} {D : va_G} {dA : Nat → ClassId} {a_o a_o_wall a_o_imageOfWall a_o_rules a_o_tape a_o_costs a_o_thought a_o_acts a_o_shelves a_o_shelves_ep1 a_o_shelves_ep1_elements : Nat} {x_o_imageIsKept : Bool} {x_o_shelves : Nat → Option Nat} {x_o_shelves_ep1_body : Int32} {p1 : Int32} {p2 : Int32} {p3 : Int32} {p4 : Int32} {p5 : Int32} {x_o_shelves_ep1_holds : Int32} {x_o_shelves_ep1_sort : Int32} {x_o_shelves_ep1_length : Int32} {x_o_shelves_ep1_elements : Nat → Int64} {r0 : Int32} {o_x_o_shelves_ep1_elements : Nat → Int64}  (he_p1 : x_o_shelves (Int32.toNatClampNeg p1) = some a_o_shelves_ep1) (he_p3 : x_o_shelves (Int32.toNatClampNeg p3) = some a_o_shelves_ep1) (hf : f_OL_shift__same  p1 p2 p3 p4 p5 x_o_shelves_ep1_holds x_o_shelves_ep1_sort x_o_shelves_ep1_length x_o_shelves_ep1_elements = some (r0, o_x_o_shelves_ep1_elements)) : CT l y_OL_shift prog_1_method_34_code 8 (some .int) { frames := 2, cells := 0, slots := 0, locals := 64 } D dA [.ref a_o, .int p1, .int p2, .int p3, .int p4, .int p5] [O_OL a_o a_o_wall a_o_imageOfWall x_o_imageIsKept a_o_rules a_o_tape a_o_costs a_o_thought a_o_acts a_o_shelves, A_Q dA a_o_shelves 6 x_o_shelves, O_Sh a_o_shelves_ep1 x_o_shelves_ep1_holds x_o_shelves_ep1_body x_o_shelves_ep1_sort x_o_shelves_ep1_length a_o_shelves_ep1_elements, A_J dA a_o_shelves_ep1_elements 60 x_o_shelves_ep1_elements] (some (.int r0)) (fun _ : Unit => [O_OL a_o a_o_wall a_o_imageOfWall x_o_imageIsKept a_o_rules a_o_tape a_o_costs a_o_thought a_o_acts a_o_shelves, A_Q dA a_o_shelves 6 x_o_shelves, O_Sh a_o_shelves_ep1 x_o_shelves_ep1_holds x_o_shelves_ep1_body x_o_shelves_ep1_sort x_o_shelves_ep1_length a_o_shelves_ep1_elements, A_J dA a_o_shelves_ep1_elements 60 o_x_o_shelves_ep1_elements]) := by
  refine ct_intro "OneLamp" rfl (by decide +kernel) (Nat.le_of_ble_eq_true rfl) [(0, .ref a_o), (1, .int p1), (2, .int p2), (3, .int p3), (4, .int p4), (5, .int p5)] rfl (fun _ C => ?_)
  unfold f_OL_shift__same at hf
  refine g_iload_n (pc' := 1) C 1 d_OL_shift_0 rfl rfl ?_
  replace hf := g_bi hf; obtain ⟨r1, hc2, hf⟩ := hf
  refine g_callS (pc' := 4) (st1 := [.int (b2i r1)]) (ws1 := [O_OL a_o a_o_wall a_o_imageOfWall x_o_imageIsKept a_o_rules a_o_tape a_o_costs a_o_thought a_o_acts a_o_shelves, A_Q dA a_o_shelves 6 x_o_shelves, O_Sh a_o_shelves_ep1 x_o_shelves_ep1_holds x_o_shelves_ep1_body x_o_shelves_ep1_sort x_o_shelves_ep1_length a_o_shelves_ep1_elements, A_J dA a_o_shelves_ep1_elements 60 x_o_shelves_ep1_elements]) C (c_OL_isShelf (l := l) (D := D) (dA := dA)    hc2) yy_OL_isShelf mw_2_99 d_OL_shift_1 rfl [] rfl rfl (Nat.le_of_ble_eq_true rfl) ⟨Nat.le_of_ble_eq_true rfl, Nat.le_of_ble_eq_true rfl⟩ rfl rfl (Nat.zero_le _) (Nat.zero_le _) [] rfl (by decide +kernel) rfl (g_lay_sel _ _ _ _ [(0, false), (1, false), (2, false), (3, false)] (by decide +kernel) rfl (by decide +kernel) rfl rfl) rfl ?_
  refine g_if_eqb (pc' := 7) (tgt := 14) C d_OL_shift_4 rfl rfl (fun h => ?_) (fun h => ?_)
  · replace hf := g_bf h hf
    refine g_iconst (pc' := 15) (v := (-1)) C d_OL_shift_14 rfl rfl ?_
    replace hf := g_o2 hf; obtain ⟨h1, hf⟩ := hf; subst h1
    replace hf := Option.some.inj hf; subst hf
    exact g_iret C d_OL_shift_15 () rfl
  · replace hf := g_bt h hf
    refine g_iload_n (pc' := 8) C 3 d_OL_shift_7 rfl rfl ?_
    replace hf := g_bi hf; obtain ⟨r3, hc4, hf⟩ := hf
    refine g_callS (pc' := 11) (st1 := [.int (b2i r3)]) (ws1 := [O_OL a_o a_o_wall a_o_imageOfWall x_o_imageIsKept a_o_rules a_o_tape a_o_costs a_o_thought a_o_acts a_o_shelves, A_Q dA a_o_shelves 6 x_o_shelves, O_Sh a_o_shelves_ep1 x_o_shelves_ep1_holds x_o_shelves_ep1_body x_o_shelves_ep1_sort x_o_shelves_ep1_length a_o_shelves_ep1_elements, A_J dA a_o_shelves_ep1_elements 60 x_o_shelves_ep1_elements]) C (c_OL_isShelf (l := l) (D := D) (dA := dA)    hc4) yy_OL_isShelf mw_2_99 d_OL_shift_8 rfl [] rfl rfl (Nat.le_of_ble_eq_true rfl) ⟨Nat.le_of_ble_eq_true rfl, Nat.le_of_ble_eq_true rfl⟩ rfl rfl (Nat.zero_le _) (Nat.zero_le _) [] rfl (by decide +kernel) rfl (g_lay_sel _ _ _ _ [(0, false), (1, false), (2, false), (3, false)] (by decide +kernel) rfl (by decide +kernel) rfl rfl) rfl ?_
    refine g_if_neb (pc' := 14) (tgt := 16) C d_OL_shift_11 rfl rfl (fun h => ?_) (fun h => ?_)
    · replace hf := g_bt h hf
      refine g_aload_n (pc' := 17) C 0 d_OL_shift_16 rfl rfl ?_
      refine g_get (pc' := 20) C kf_OL 8 mw_2_52 d_OL_shift_17 rfl 0 rfl (by decide) rfl ?_
      refine g_iload_n (pc' := 21) C 1 d_OL_shift_20 rfl rfl ?_
      have hb := g_ck hf
      replace hf := g_in hb hf
      refine g_aald (pc' := 22) C d_OL_shift_21 rfl 1 rfl hb he_p1 ?_
      refine g_astore (pc' := 24) (lv' := [(6, .ref a_o_shelves_ep1), (0, .ref a_o), (1, .int p1), (2, .int p2), (3, .int p3), (4, .int p4), (5, .int p5)]) C d_OL_shift_22 rfl (by decide) rfl ?_
      refine g_aload_n (pc' := 25) C 1 d_OL_shift_24 rfl rfl ?_
      refine g_get (pc' := 28) C kf_OL 8 mw_2_52 d_OL_shift_25 rfl 0 rfl (by decide) rfl ?_
      refine g_iload_n (pc' := 29) C 4 d_OL_shift_28 rfl rfl ?_
      have hb := g_ck hf
      replace hf := g_in hb hf
      refine g_aald (pc' := 30) C d_OL_shift_29 rfl 1 rfl hb he_p3 ?_
      refine g_astore (pc' := 32) (lv' := [(7, .ref a_o_shelves_ep1), (6, .ref a_o_shelves_ep1), (0, .ref a_o), (1, .int p1), (2, .int p2), (3, .int p3), (4, .int p4), (5, .int p5)]) C d_OL_shift_30 rfl (by decide) rfl ?_
      refine g_aload (pc' := 34) C 1 d_OL_shift_32 rfl rfl ?_
      replace hf := g_bi hf; obtain ⟨r5, hc6, hf⟩ := hf
      refine g_callV (pc' := 37) (st1 := [.int (b2i r5)]) (ws1 := [O_OL a_o a_o_wall a_o_imageOfWall x_o_imageIsKept a_o_rules a_o_tape a_o_costs a_o_thought a_o_acts a_o_shelves, A_Q dA a_o_shelves 6 x_o_shelves, O_Sh a_o_shelves_ep1 x_o_shelves_ep1_holds x_o_shelves_ep1_body x_o_shelves_ep1_sort x_o_shelves_ep1_length a_o_shelves_ep1_elements, A_J dA a_o_shelves_ep1_elements 60 x_o_shelves_ep1_elements]) C (c_Sh_isEmpty (l := l) (D := D) (dA := dA) (a_o := a_o_shelves_ep1) (a_o_elements := a_o_shelves_ep1_elements) (x_o_body := x_o_shelves_ep1_body) (x_o_sort := x_o_shelves_ep1_sort) (x_o_length := x_o_shelves_ep1_length)   hc6) yy_Sh_isEmpty kf_Sh rfl mw_2_102 d_OL_shift_34 rfl [] rfl rfl (Nat.le_of_ble_eq_true rfl) ⟨Nat.le_of_ble_eq_true rfl, Nat.le_of_ble_eq_true rfl⟩ rfl rfl (Nat.zero_le _) (Nat.zero_le _) 2 rfl [2] rfl (by decide +kernel) rfl (g_lay_sel _ _ _ _ [(0, false), (1, false), (0, true), (3, false)] (by decide +kernel) rfl (by decide +kernel) rfl rfl) rfl ?_
      refine g_if_neb (pc' := 40) (tgt := 48) C d_OL_shift_37 rfl rfl (fun h => ?_) (fun h => ?_)
      · replace hf := g_bt h hf
        refine g_bipush (pc' := 50) (v := (-11)) C d_OL_shift_48 rfl rfl ?_
        replace hf := g_o2 hf; obtain ⟨h1, hf⟩ := hf; subst h1
        replace hf := Option.some.inj hf; subst hf
        exact g_iret C d_OL_shift_50 () rfl
      · replace hf := g_bf h hf
        refine g_aload (pc' := 42) C 0 d_OL_shift_40 rfl rfl ?_
        replace hf := g_bi hf; obtain ⟨r7, hc8, hf⟩ := hf
        refine g_callV (pc' := 45) (st1 := [.int (b2i r7)]) (ws1 := [O_OL a_o a_o_wall a_o_imageOfWall x_o_imageIsKept a_o_rules a_o_tape a_o_costs a_o_thought a_o_acts a_o_shelves, A_Q dA a_o_shelves 6 x_o_shelves, O_Sh a_o_shelves_ep1 x_o_shelves_ep1_holds x_o_shelves_ep1_body x_o_shelves_ep1_sort x_o_shelves_ep1_length a_o_shelves_ep1_elements, A_J dA a_o_shelves_ep1_elements 60 x_o_shelves_ep1_elements]) C (c_Sh_isEmpty (l := l) (D := D) (dA := dA) (a_o := a_o_shelves_ep1) (a_o_elements := a_o_shelves_ep1_elements) (x_o_body := x_o_shelves_ep1_body) (x_o_sort := x_o_shelves_ep1_sort) (x_o_length := x_o_shelves_ep1_length)   hc8) yy_Sh_isEmpty kf_Sh rfl mw_2_102 d_OL_shift_42 rfl [] rfl rfl (Nat.le_of_ble_eq_true rfl) ⟨Nat.le_of_ble_eq_true rfl, Nat.le_of_ble_eq_true rfl⟩ rfl rfl (Nat.zero_le _) (Nat.zero_le _) 2 rfl [2] rfl (by decide +kernel) rfl (g_lay_sel _ _ _ _ [(0, false), (1, false), (0, true), (3, false)] (by decide +kernel) rfl (by decide +kernel) rfl rfl) rfl ?_
        refine g_if_eqb (pc' := 48) (tgt := 51) C d_OL_shift_45 rfl rfl (fun h => ?_) (fun h => ?_)
        · replace hf := g_bf h hf
          refine g_aload (pc' := 53) C 1 d_OL_shift_51 rfl rfl ?_
          replace hf := g_bi hf; obtain ⟨r9, hc10, hf⟩ := hf
          refine g_callV (pc' := 56) (st1 := [.int (b2i r9)]) (ws1 := [O_OL a_o a_o_wall a_o_imageOfWall x_o_imageIsKept a_o_rules a_o_tape a_o_costs a_o_thought a_o_acts a_o_shelves, A_Q dA a_o_shelves 6 x_o_shelves, O_Sh a_o_shelves_ep1 x_o_shelves_ep1_holds x_o_shelves_ep1_body x_o_shelves_ep1_sort x_o_shelves_ep1_length a_o_shelves_ep1_elements, A_J dA a_o_shelves_ep1_elements 60 x_o_shelves_ep1_elements]) C (c_Sh_isRow (l := l) (D := D) (dA := dA) (a_o := a_o_shelves_ep1) (a_o_elements := a_o_shelves_ep1_elements) (x_o_body := x_o_shelves_ep1_body) (x_o_sort := x_o_shelves_ep1_sort) (x_o_length := x_o_shelves_ep1_length)   hc10) yy_Sh_isRow kf_Sh rfl mw_4_86 d_OL_shift_53 rfl [] rfl rfl (Nat.le_of_ble_eq_true rfl) ⟨Nat.le_of_ble_eq_true rfl, Nat.le_of_ble_eq_true rfl⟩ rfl rfl (Nat.zero_le _) (Nat.zero_le _) 2 rfl [2] rfl (by decide +kernel) rfl (g_lay_sel _ _ _ _ [(0, false), (1, false), (0, true), (3, false)] (by decide +kernel) rfl (by decide +kernel) rfl rfl) rfl ?_
          refine g_if_eqb (pc' := 59) (tgt := 72) C d_OL_shift_56 rfl rfl (fun h => ?_) (fun h => ?_)
          · replace hf := g_bf h hf
            refine g_bipush (pc' := 74) (v := (-12)) C d_OL_shift_72 rfl rfl ?_
            replace hf := g_o2 hf; obtain ⟨h1, hf⟩ := hf; subst h1
            replace hf := Option.some.inj hf; subst hf
            exact g_iret C d_OL_shift_74 () rfl
          · replace hf := g_bt h hf
            refine g_aload (pc' := 61) C 0 d_OL_shift_59 rfl rfl ?_
            refine g_aload (pc' := 63) C 1 d_OL_shift_61 rfl rfl ?_
            refine g_get (pc' := 66) C kf_Sh 2 mw_2_29 d_OL_shift_63 rfl 2 rfl (by decide) rfl ?_
            replace hf := g_bi hf; obtain ⟨r11, hc12, hf⟩ := hf
            refine g_callV (pc' := 69) (st1 := [.int (b2i r11)]) (ws1 := [O_OL a_o a_o_wall a_o_imageOfWall x_o_imageIsKept a_o_rules a_o_tape a_o_costs a_o_thought a_o_acts a_o_shelves, A_Q dA a_o_shelves 6 x_o_shelves, O_Sh a_o_shelves_ep1 x_o_shelves_ep1_holds x_o_shelves_ep1_body x_o_shelves_ep1_sort x_o_shelves_ep1_length a_o_shelves_ep1_elements, A_J dA a_o_shelves_ep1_elements 60 x_o_shelves_ep1_elements]) C (c_Sh_isRowOf (l := l) (D := D) (dA := dA) (a_o := a_o_shelves_ep1) (a_o_elements := a_o_shelves_ep1_elements) (x_o_body := x_o_shelves_ep1_body) (x_o_length := x_o_shelves_ep1_length)   hc12) yy_Sh_isRowOf kf_Sh rfl mw_2_106 d_OL_shift_66 rfl [] rfl rfl (Nat.le_of_ble_eq_true rfl) ⟨Nat.le_of_ble_eq_true rfl, Nat.le_of_ble_eq_true rfl⟩ rfl rfl (Nat.zero_le _) (Nat.zero_le _) 2 rfl [2] rfl (by decide +kernel) rfl (g_lay_sel _ _ _ _ [(0, false), (1, false), (0, true), (3, false)] (by decide +kernel) rfl (by decide +kernel) rfl rfl) rfl ?_
            refine g_if_neb (pc' := 72) (tgt := 75) C d_OL_shift_69 rfl rfl (fun h => ?_) (fun h => ?_)
            · replace hf := g_bt h hf
              refine g_aload (pc' := 77) C 1 d_OL_shift_75 rfl rfl ?_
              refine g_iload_n (pc' := 78) C 4 d_OL_shift_77 rfl rfl ?_
              refine g_iload (pc' := 80) C 7 d_OL_shift_78 rfl rfl ?_
              replace hf := g_bi hf; obtain ⟨r13, hc14, hf⟩ := hf
              refine g_callV (pc' := 83) (st1 := [.int (b2i r13)]) (ws1 := [O_OL a_o a_o_wall a_o_imageOfWall x_o_imageIsKept a_o_rules a_o_tape a_o_costs a_o_thought a_o_acts a_o_shelves, A_Q dA a_o_shelves 6 x_o_shelves, O_Sh a_o_shelves_ep1 x_o_shelves_ep1_holds x_o_shelves_ep1_body x_o_shelves_ep1_sort x_o_shelves_ep1_length a_o_shelves_ep1_elements, A_J dA a_o_shelves_ep1_elements 60 x_o_shelves_ep1_elements]) C (c_Sh_hasPlaces (l := l) (D := D) (dA := dA) (a_o := a_o_shelves_ep1) (a_o_elements := a_o_shelves_ep1_elements) (x_o_holds := x_o_shelves_ep1_holds) (x_o_body := x_o_shelves_ep1_body) (x_o_sort := x_o_shelves_ep1_sort)   hc14) yy_Sh_hasPlaces kf_Sh rfl mw_4_107 d_OL_shift_80 rfl [] rfl rfl (Nat.le_of_ble_eq_true rfl) ⟨Nat.le_of_ble_eq_true rfl, Nat.le_of_ble_eq_true rfl⟩ rfl rfl (Nat.zero_le _) (Nat.zero_le _) 2 rfl [2] rfl (by decide +kernel) rfl (g_lay_sel _ _ _ _ [(0, false), (1, false), (0, true), (3, false)] (by decide +kernel) rfl (by decide +kernel) rfl rfl) rfl ?_
              refine g_if_eqb (pc' := 86) (tgt := 98) C d_OL_shift_83 rfl rfl (fun h => ?_) (fun h => ?_)
              · replace hf := g_bf h hf
                refine g_bipush (pc' := 100) (v := (-13)) C d_OL_shift_98 rfl rfl ?_
                replace hf := g_o2 hf; obtain ⟨h1, hf⟩ := hf; subst h1
                replace hf := Option.some.inj hf; subst hf
                exact g_iret C d_OL_shift_100 () rfl
              · replace hf := g_bt h hf
                refine g_aload (pc' := 88) C 0 d_OL_shift_86 rfl rfl ?_
                refine g_iload (pc' := 90) C 6 d_OL_shift_88 rfl rfl ?_
                refine g_iload (pc' := 92) C 7 d_OL_shift_90 rfl rfl ?_
                replace hf := g_bi hf; obtain ⟨r15, hc16, hf⟩ := hf
                refine g_callV (pc' := 95) (st1 := [.int (b2i r15)]) (ws1 := [O_OL a_o a_o_wall a_o_imageOfWall x_o_imageIsKept a_o_rules a_o_tape a_o_costs a_o_thought a_o_acts a_o_shelves, A_Q dA a_o_shelves 6 x_o_shelves, O_Sh a_o_shelves_ep1 x_o_shelves_ep1_holds x_o_shelves_ep1_body x_o_shelves_ep1_sort x_o_shelves_ep1_length a_o_shelves_ep1_elements, A_J dA a_o_shelves_ep1_elements 60 x_o_shelves_ep1_elements]) C (c_Sh_hasPlaces (l := l) (D := D) (dA := dA) (a_o := a_o_shelves_ep1) (a_o_elements := a_o_shelves_ep1_elements) (x_o_holds := x_o_shelves_ep1_holds) (x_o_body := x_o_shelves_ep1_body) (x_o_sort := x_o_shelves_ep1_sort)   hc16) yy_Sh_hasPlaces kf_Sh rfl mw_4_107 d_OL_shift_92 rfl [] rfl rfl (Nat.le_of_ble_eq_true rfl) ⟨Nat.le_of_ble_eq_true rfl, Nat.le_of_ble_eq_true rfl⟩ rfl rfl (Nat.zero_le _) (Nat.zero_le _) 2 rfl [2] rfl (by decide +kernel) rfl (g_lay_sel _ _ _ _ [(0, false), (1, false), (0, true), (3, false)] (by decide +kernel) rfl (by decide +kernel) rfl rfl) rfl ?_
                refine g_if_neb (pc' := 98) (tgt := 101) C d_OL_shift_95 rfl rfl (fun h => ?_) (fun h => ?_)
                · replace hf := g_bt h hf
                  refine g_aload (pc' := 103) C 0 d_OL_shift_101 rfl rfl ?_
                  refine g_aload (pc' := 105) C 1 d_OL_shift_103 rfl rfl ?_
                  refine g_iload_n (pc' := 106) C 4 d_OL_shift_105 rfl rfl ?_
                  refine g_iload (pc' := 108) C 6 d_OL_shift_106 rfl rfl ?_
                  refine g_iload (pc' := 110) C 7 d_OL_shift_108 rfl rfl ?_
                  replace hf := g_bi hf; obtain ⟨u17, hc18, hf⟩ := hf
                  refine g_callV (pc' := 113) (st1 := []) (ws1 := [O_OL a_o a_o_wall a_o_imageOfWall x_o_imageIsKept a_o_rules a_o_tape a_o_costs a_o_thought a_o_acts a_o_shelves, A_Q dA a_o_shelves 6 x_o_shelves, O_Sh a_o_shelves_ep1 x_o_shelves_ep1_holds x_o_shelves_ep1_body x_o_shelves_ep1_sort x_o_shelves_ep1_length a_o_shelves_ep1_elements, A_J dA a_o_shelves_ep1_elements 60 u17]) C (c_Sh_take__same (l := l) (D := D) (dA := dA) (a_o := a_o_shelves_ep1) (a_o_elements := a_o_shelves_ep1_elements) (x_o_holds := x_o_shelves_ep1_holds) (x_o_body := x_o_shelves_ep1_body) (x_o_sort := x_o_shelves_ep1_sort)   hc18) yy_Sh_take kf_Sh rfl mw_4_111 d_OL_shift_110 rfl [] rfl rfl (Nat.le_of_ble_eq_true rfl) ⟨Nat.le_of_ble_eq_true rfl, Nat.le_of_ble_eq_true rfl⟩ rfl rfl (Nat.zero_le _) (Nat.zero_le _) 2 rfl [2, 3] rfl (by decide +kernel) rfl (g_lay_sel _ _ _ _ [(0, false), (1, false), (0, true), (1, true)] (by decide +kernel) rfl (by decide +kernel) rfl rfl) rfl ?_
                  refine g_iload (pc' := 115) C 7 d_OL_shift_113 rfl rfl ?_
                  replace hf := g_o2 hf; obtain ⟨h1, hf⟩ := hf; subst h1
                  replace hf := Option.some.inj hf; subst hf
                  exact g_iret C d_OL_shift_115 () rfl
                · replace hf := g_bf h hf
                  refine g_bipush (pc' := 100) (v := (-13)) C d_OL_shift_98 rfl rfl ?_
                  replace hf := g_o2 hf; obtain ⟨h1, hf⟩ := hf; subst h1
                  replace hf := Option.some.inj hf; subst hf
                  exact g_iret C d_OL_shift_100 () rfl
            · replace hf := g_bf h hf
              refine g_bipush (pc' := 74) (v := (-12)) C d_OL_shift_72 rfl rfl ?_
              replace hf := g_o2 hf; obtain ⟨h1, hf⟩ := hf; subst h1
              replace hf := Option.some.inj hf; subst hf
              exact g_iret C d_OL_shift_74 () rfl
        · replace hf := g_bt h hf
          refine g_bipush (pc' := 50) (v := (-11)) C d_OL_shift_48 rfl rfl ?_
          replace hf := g_o2 hf; obtain ⟨h1, hf⟩ := hf; subst h1
          replace hf := Option.some.inj hf; subst hf
          exact g_iret C d_OL_shift_50 () rfl
    · replace hf := g_bf h hf
      refine g_iconst (pc' := 15) (v := (-1)) C d_OL_shift_14 rfl rfl ?_
      replace hf := g_o2 hf; obtain ⟨h1, hf⟩ := hf; subst h1
      replace hf := Option.some.inj hf; subst hf
      exact g_iret C d_OL_shift_15 () rfl
def y_OL_taken : MethodName := ⟨"OneLamp", "taken", "(II)I"⟩
theorem yy_OL_taken : YV y_OL_taken prog_1_method_35_code 5 (some .int) 2 := ⟨mw_4_120, mw_1_1, mw_4_118, mw_4_119, by decide +kernel, by decide +kernel, by decide +kernel⟩
theorem d_OL_taken_0 : decode prog_1_method_35_code 0 = .ok (.iload_n 1, 1) := by decide +kernel
theorem d_OL_taken_1 : decode prog_1_method_35_code 1 = .ok (.invokestatic 88, 3) := by decide +kernel
theorem d_OL_taken_4 : decode prog_1_method_35_code 4 = .ok (.ifCond .eq 10, 3) := by decide +kernel
theorem d_OL_taken_7 : decode prog_1_method_35_code 7 = .ok (.iload_n 2, 1) := by decide +kernel
theorem d_OL_taken_8 : decode prog_1_method_35_code 8 = .ok (.invokestatic 242, 3) := by decide +kernel
theorem d_OL_taken_11 : decode prog_1_method_35_code 11 = .ok (.ifCond .ne 5, 3) := by decide +kernel
theorem d_OL_taken_14 : decode prog_1_method_35_code 14 = .ok (.iconst (-1), 1) := by decide +kernel
theorem d_OL_taken_15 : decode prog_1_method_35_code 15 = .ok (.ireturn, 1) := by decide +kernel
theorem d_OL_taken_16 : decode prog_1_method_35_code 16 = .ok (.aload_n 0, 1) := by decide +kernel
theorem d_OL_taken_17 : decode prog_1_method_35_code 17 = .ok (.getfield 56, 3) := by decide +kernel
theorem d_OL_taken_20 : decode prog_1_method_35_code 20 = .ok (.iload_n 1, 1) := by decide +kernel
theorem d_OL_taken_21 : decode prog_1_method_35_code 21 = .ok (.aaload, 1) := by decide +kernel
theorem d_OL_taken_22 : decode prog_1_method_35_code 22 = .ok (.astore_n 3, 1) := by decide +kernel
theorem d_OL_taken_23 : decode prog_1_method_35_code 23 = .ok (.aload_n 3, 1) := by decide +kernel
theorem d_OL_taken_24 : decode prog_1_method_35_code 24 = .ok (.invokevirtual 91, 3) := by decide +kernel
theorem d_OL_taken_27 : decode prog_1_method_35_code 27 = .ok (.ifCond .eq 6, 3) := by decide +kernel
theorem d_OL_taken_30 : decode prog_1_method_35_code 30 = .ok (.bipush (-11), 2) := by decide +kernel
theorem d_OL_taken_32 : decode prog_1_method_35_code 32 = .ok (.ireturn, 1) := by decide +kernel
theorem d_OL_taken_33 : decode prog_1_method_35_code 33 = .ok (.aload_n 3, 1) := by decide +kernel
theorem d_OL_taken_34 : decode prog_1_method_35_code 34 = .ok (.invokevirtual 297, 3) := by decide +kernel
theorem d_OL_taken_37 : decode prog_1_method_35_code 37 = .ok (.ifCond .ne 6, 3) := by decide +kernel
theorem d_OL_taken_40 : decode prog_1_method_35_code 40 = .ok (.bipush (-12), 2) := by decide +kernel
theorem d_OL_taken_42 : decode prog_1_method_35_code 42 = .ok (.ireturn, 1) := by decide +kernel
theorem d_OL_taken_43 : decode prog_1_method_35_code 43 = .ok (.aload_n 0, 1) := by decide +kernel
theorem d_OL_taken_44 : decode prog_1_method_35_code 44 = .ok (.getfield 50, 3) := by decide +kernel
theorem d_OL_taken_47 : decode prog_1_method_35_code 47 = .ok (.aload_n 3, 1) := by decide +kernel
theorem d_OL_taken_48 : decode prog_1_method_35_code 48 = .ok (.getfield 299, 3) := by decide +kernel
theorem d_OL_taken_51 : decode prog_1_method_35_code 51 = .ok (.invokevirtual 302, 3) := by decide +kernel
theorem d_OL_taken_54 : decode prog_1_method_35_code 54 = .ok (.istore 4, 2) := by decide +kernel
theorem d_OL_taken_56 : decode prog_1_method_35_code 56 = .ok (.iload 4, 2) := by decide +kernel
theorem d_OL_taken_58 : decode prog_1_method_35_code 58 = .ok (.iload_n 2, 1) := by decide +kernel
theorem d_OL_taken_59 : decode prog_1_method_35_code 59 = .ok (.invokestatic 305, 3) := by decide +kernel
theorem d_OL_taken_62 : decode prog_1_method_35_code 62 = .ok (.ifCond .eq 8, 3) := by decide +kernel
theorem d_OL_taken_65 : decode prog_1_method_35_code 65 = .ok (.iload 4, 2) := by decide +kernel
theorem d_OL_taken_67 : decode prog_1_method_35_code 67 = .ok (.goto 5, 3) := by decide +kernel
theorem d_OL_taken_70 : decode prog_1_method_35_code 70 = .ok (.bipush (-12), 2) := by decide +kernel
theorem d_OL_taken_72 : decode prog_1_method_35_code 72 = .ok (.ireturn, 1) := by decide +kernel
def f_OL_taken  (p1 : Int32) (p2 : Int32) (x_o_shelves_ep1_holds : Int32) (x_o_shelves_ep1_body : Int32) (x_o_acts_bodies : Int32) (x_o_acts_kinds : Nat → Int32) : Option (Int32) :=
  (f_OL_isShelf  p1).bind fun r1 =>
  if r1 = true then
    ((f_Ac_isKind  p2).bind fun r3 =>
    if r3 = true then
      (if p1 < 0 ∨ 6 ≤ Int32.toNatClampNeg p1 then none else
      (f_Sh_isEmpty  x_o_shelves_ep1_holds).bind fun r5 =>
      if r5 = true then
        (some ((-11 : Int32)))
      else
        ((f_Sh_isBody  x_o_shelves_ep1_holds).bind fun r7 =>
        if r7 = true then
          ((f_Ac_kindOf  x_o_shelves_ep1_body x_o_acts_bodies x_o_acts_kinds).bind fun r9 =>
          (f_Ac_isUnder  r9 p2).bind fun r11 =>
          if r11 = true then
            (some (r9))
          else
            (some ((-12 : Int32))))
        else
          (some ((-12 : Int32)))))
    else
      (some ((-1 : Int32))))
  else
    (some ((-1 : Int32)))
set_option maxRecDepth 20000 in
theorem c_OL_taken {l : Launch} {D : va_G} {dA : Nat → ClassId} {a_o a_o_wall a_o_imageOfWall a_o_rules a_o_tape a_o_costs a_o_thought a_o_acts a_o_shelves a_o_shelves_ep1 a_o_shelves_ep1_elements a_o_acts_kinds a_o_acts_trace : Nat} {x_o_imageIsKept : Bool} {x_o_shelves : Nat → Option Nat} {x_o_shelves_ep1_sort : Int32} {x_o_shelves_ep1_length : Int32} {x_o_acts_ran : Int32} {x_o_acts_number : Int32} {p1 : Int32} {p2 : Int32} {x_o_shelves_ep1_holds : Int32} {x_o_shelves_ep1_body : Int32} {x_o_acts_bodies : Int32} {x_o_acts_kinds : Nat → Int32} {r0 : Int32}  (he_p1 : x_o_shelves (Int32.toNatClampNeg p1) = some a_o_shelves_ep1) (hf : f_OL_taken  p1 p2 x_o_shelves_ep1_holds x_o_shelves_ep1_body x_o_acts_bodies x_o_acts_kinds = some r0) : CT l y_OL_taken prog_1_method_35_code 5 (some .int) { frames := 2, cells := 0, slots := 0, locals := 43 } D dA [.ref a_o, .int p1, .int p2] [O_OL a_o a_o_wall a_o_imageOfWall x_o_imageIsKept a_o_rules a_o_tape a_o_costs a_o_thought a_o_acts a_o_shelves, A_Q dA a_o_shelves 6 x_o_shelves, O_Sh a_o_shelves_ep1 x_o_shelves_ep1_holds x_o_shelves_ep1_body x_o_shelves_ep1_sort x_o_shelves_ep1_length a_o_shelves_ep1_elements, O_Ac a_o_acts a_o_acts_kinds x_o_acts_bodies a_o_acts_trace x_o_acts_ran x_o_acts_number, A_I dA a_o_acts_kinds 50 x_o_acts_kinds] (some (.int r0)) (fun _ : Unit => [O_OL a_o a_o_wall a_o_imageOfWall x_o_imageIsKept a_o_rules a_o_tape a_o_costs a_o_thought a_o_acts a_o_shelves, A_Q dA a_o_shelves 6 x_o_shelves, O_Sh a_o_shelves_ep1 x_o_shelves_ep1_holds x_o_shelves_ep1_body x_o_shelves_ep1_sort x_o_shelves_ep1_length a_o_shelves_ep1_elements, O_Ac a_o_acts a_o_acts_kinds x_o_acts_bodies a_o_acts_trace x_o_acts_ran x_o_acts_number, A_I dA a_o_acts_kinds 50 x_o_acts_kinds]) := by
  refine ct_intro "OneLamp" rfl (by decide +kernel) (Nat.le_of_ble_eq_true rfl) [(0, .ref a_o), (1, .int p1), (2, .int p2)] rfl (fun _ C => ?_)
  unfold f_OL_taken at hf
  refine g_iload_n (pc' := 1) C 1 d_OL_taken_0 rfl rfl ?_
  replace hf := g_bi hf; obtain ⟨r1, hc2, hf⟩ := hf
  refine g_callS (pc' := 4) (st1 := [.int (b2i r1)]) (ws1 := [O_OL a_o a_o_wall a_o_imageOfWall x_o_imageIsKept a_o_rules a_o_tape a_o_costs a_o_thought a_o_acts a_o_shelves, A_Q dA a_o_shelves 6 x_o_shelves, O_Sh a_o_shelves_ep1 x_o_shelves_ep1_holds x_o_shelves_ep1_body x_o_shelves_ep1_sort x_o_shelves_ep1_length a_o_shelves_ep1_elements, O_Ac a_o_acts a_o_acts_kinds x_o_acts_bodies a_o_acts_trace x_o_acts_ran x_o_acts_number, A_I dA a_o_acts_kinds 50 x_o_acts_kinds]) C (c_OL_isShelf (l := l) (D := D) (dA := dA)    hc2) yy_OL_isShelf mw_2_99 d_OL_taken_1 rfl [] rfl rfl (Nat.le_of_ble_eq_true rfl) ⟨Nat.le_of_ble_eq_true rfl, Nat.le_of_ble_eq_true rfl⟩ rfl rfl (Nat.zero_le _) (Nat.zero_le _) [] rfl (by decide +kernel) rfl (g_lay_sel _ _ _ _ [(0, false), (1, false), (2, false), (3, false), (4, false)] (by decide +kernel) rfl (by decide +kernel) rfl rfl) rfl ?_
  refine g_if_eqb (pc' := 7) (tgt := 14) C d_OL_taken_4 rfl rfl (fun h => ?_) (fun h => ?_)
  · replace hf := g_bf h hf
    refine g_iconst (pc' := 15) (v := (-1)) C d_OL_taken_14 rfl rfl ?_
    replace hf := Option.some.inj hf; subst hf
    exact g_iret C d_OL_taken_15 () rfl
  · replace hf := g_bt h hf
    refine g_iload_n (pc' := 8) C 2 d_OL_taken_7 rfl rfl ?_
    replace hf := g_bi hf; obtain ⟨r3, hc4, hf⟩ := hf
    refine g_callS (pc' := 11) (st1 := [.int (b2i r3)]) (ws1 := [O_OL a_o a_o_wall a_o_imageOfWall x_o_imageIsKept a_o_rules a_o_tape a_o_costs a_o_thought a_o_acts a_o_shelves, A_Q dA a_o_shelves 6 x_o_shelves, O_Sh a_o_shelves_ep1 x_o_shelves_ep1_holds x_o_shelves_ep1_body x_o_shelves_ep1_sort x_o_shelves_ep1_length a_o_shelves_ep1_elements, O_Ac a_o_acts a_o_acts_kinds x_o_acts_bodies a_o_acts_trace x_o_acts_ran x_o_acts_number, A_I dA a_o_acts_kinds 50 x_o_acts_kinds]) C (c_Ac_isKind (l := l) (D := D) (dA := dA)    hc4) yy_Ac_isKind mw_4_2 d_OL_taken_8 rfl [] rfl rfl (Nat.le_of_ble_eq_true rfl) ⟨Nat.le_of_ble_eq_true rfl, Nat.le_of_ble_eq_true rfl⟩ rfl rfl (Nat.zero_le _) (Nat.zero_le _) [] rfl (by decide +kernel) rfl (g_lay_sel _ _ _ _ [(0, false), (1, false), (2, false), (3, false), (4, false)] (by decide +kernel) rfl (by decide +kernel) rfl rfl) rfl ?_
    refine g_if_neb (pc' := 14) (tgt := 16) C d_OL_taken_11 rfl rfl (fun h => ?_) (fun h => ?_)
    · replace hf := g_bt h hf
      refine g_aload_n (pc' := 17) C 0 d_OL_taken_16 rfl rfl ?_
      refine g_get (pc' := 20) C kf_OL 8 mw_2_52 d_OL_taken_17 rfl 0 rfl (by decide) rfl ?_
      refine g_iload_n (pc' := 21) C 1 d_OL_taken_20 rfl rfl ?_
      have hb := g_ck hf
      replace hf := g_in hb hf
      refine g_aald (pc' := 22) C d_OL_taken_21 rfl 1 rfl hb he_p1 ?_
      refine g_astore_n (pc' := 23) (lv' := [(3, .ref a_o_shelves_ep1), (0, .ref a_o), (1, .int p1), (2, .int p2)]) C d_OL_taken_22 rfl (by decide) rfl ?_
      refine g_aload_n (pc' := 24) C 0 d_OL_taken_23 rfl rfl ?_
      replace hf := g_bi hf; obtain ⟨r5, hc6, hf⟩ := hf
      refine g_callV (pc' := 27) (st1 := [.int (b2i r5)]) (ws1 := [O_OL a_o a_o_wall a_o_imageOfWall x_o_imageIsKept a_o_rules a_o_tape a_o_costs a_o_thought a_o_acts a_o_shelves, A_Q dA a_o_shelves 6 x_o_shelves, O_Sh a_o_shelves_ep1 x_o_shelves_ep1_holds x_o_shelves_ep1_body x_o_shelves_ep1_sort x_o_shelves_ep1_length a_o_shelves_ep1_elements, O_Ac a_o_acts a_o_acts_kinds x_o_acts_bodies a_o_acts_trace x_o_acts_ran x_o_acts_number, A_I dA a_o_acts_kinds 50 x_o_acts_kinds]) C (c_Sh_isEmpty (l := l) (D := D) (dA := dA) (a_o := a_o_shelves_ep1) (a_o_elements := a_o_shelves_ep1_elements) (x_o_body := x_o_shelves_ep1_body) (x_o_sort := x_o_shelves_ep1_sort) (x_o_length := x_o_shelves_ep1_length)   hc6) yy_Sh_isEmpty kf_Sh rfl mw_2_102 d_OL_taken_24 rfl [] rfl rfl (Nat.le_of_ble_eq_true rfl) ⟨Nat.le_of_ble_eq_true rfl, Nat.le_of_ble_eq_true rfl⟩ rfl rfl (Nat.zero_le _) (Nat.zero_le _) 2 rfl [2] rfl (by decide +kernel) rfl (g_lay_sel _ _ _ _ [(0, false), (1, false), (0, true), (3, false), (4, false)] (by decide +kernel) rfl (by decide +kernel) rfl rfl) rfl ?_
      refine g_if_eqb (pc' := 30) (tgt := 33) C d_OL_taken_27 rfl rfl (fun h => ?_) (fun h => ?_)
      · replace hf := g_bf h hf
        refine g_aload_n (pc' := 34) C 0 d_OL_taken_33 rfl rfl ?_
        replace hf := g_bi hf; obtain ⟨r7, hc8, hf⟩ := hf
        refine g_callV (pc' := 37) (st1 := [.int (b2i r7)]) (ws1 := [O_OL a_o a_o_wall a_o_imageOfWall x_o_imageIsKept a_o_rules a_o_tape a_o_costs a_o_thought a_o_acts a_o_shelves, A_Q dA a_o_shelves 6 x_o_shelves, O_Sh a_o_shelves_ep1 x_o_shelves_ep1_holds x_o_shelves_ep1_body x_o_shelves_ep1_sort x_o_shelves_ep1_length a_o_shelves_ep1_elements, O_Ac a_o_acts a_o_acts_kinds x_o_acts_bodies a_o_acts_trace x_o_acts_ran x_o_acts_number, A_I dA a_o_acts_kinds 50 x_o_acts_kinds]) C (c_Sh_isBody (l := l) (D := D) (dA := dA) (a_o := a_o_shelves_ep1) (a_o_elements := a_o_shelves_ep1_elements) (x_o_body := x_o_shelves_ep1_body) (x_o_sort := x_o_shelves_ep1_sort) (x_o_length := x_o_shelves_ep1_length)   hc8) yy_Sh_isBody kf_Sh rfl mw_4_121 d_OL_taken_34 rfl [] rfl rfl (Nat.le_of_ble_eq_true rfl) ⟨Nat.le_of_ble_eq_true rfl, Nat.le_of_ble_eq_true rfl⟩ rfl rfl (Nat.zero_le _) (Nat.zero_le _) 2 rfl [2] rfl (by decide +kernel) rfl (g_lay_sel _ _ _ _ [(0, false), (1, false), (0, true), (3, false), (4, false)] (by decide +kernel) rfl (by decide +kernel) rfl rfl) rfl ?_
        refine g_if_neb (pc' := 40) (tgt := 43) C d_OL_taken_37 rfl rfl (fun h => ?_) (fun h => ?_)
        · replace hf := g_bt h hf
          refine g_aload_n (pc' := 44) C 1 d_OL_taken_43 rfl rfl ?_
          refine g_get (pc' := 47) C kf_OL 7 mw_2_51 d_OL_taken_44 rfl 0 rfl (by decide) rfl ?_
          refine g_aload_n (pc' := 48) C 0 d_OL_taken_47 rfl rfl ?_
          refine g_get (pc' := 51) C kf_Sh 1 mw_2_27 d_OL_taken_48 rfl 2 rfl (by decide) rfl ?_
          replace hf := g_bi hf; obtain ⟨r9, hc10, hf⟩ := hf
          refine g_callV (pc' := 54) (st1 := [.int r9]) (ws1 := [O_OL a_o a_o_wall a_o_imageOfWall x_o_imageIsKept a_o_rules a_o_tape a_o_costs a_o_thought a_o_acts a_o_shelves, A_Q dA a_o_shelves 6 x_o_shelves, O_Sh a_o_shelves_ep1 x_o_shelves_ep1_holds x_o_shelves_ep1_body x_o_shelves_ep1_sort x_o_shelves_ep1_length a_o_shelves_ep1_elements, O_Ac a_o_acts a_o_acts_kinds x_o_acts_bodies a_o_acts_trace x_o_acts_ran x_o_acts_number, A_I dA a_o_acts_kinds 50 x_o_acts_kinds]) C (c_Ac_kindOf (l := l) (D := D) (dA := dA) (a_o := a_o_acts) (a_o_kinds := a_o_acts_kinds) (a_o_trace := a_o_acts_trace) (x_o_ran := x_o_acts_ran) (x_o_number := x_o_acts_number)   hc10) yy_Ac_kindOf kf_Ac rfl mw_4_125 d_OL_taken_51 rfl [] rfl rfl (Nat.le_of_ble_eq_true rfl) ⟨Nat.le_of_ble_eq_true rfl, Nat.le_of_ble_eq_true rfl⟩ rfl rfl (Nat.zero_le _) (Nat.zero_le _) 3 rfl [3, 4] rfl (by decide +kernel) rfl (g_lay_sel _ _ _ _ [(0, false), (1, false), (2, false), (0, true), (1, true)] (by decide +kernel) rfl (by decide +kernel) rfl rfl) rfl ?_
          refine g_istore (pc' := 56) (lv' := [(4, .int r9), (3, .ref a_o_shelves_ep1), (0, .ref a_o), (1, .int p1), (2, .int p2)]) C d_OL_taken_54 rfl (by decide) rfl ?_
          refine g_iload (pc' := 58) C 0 d_OL_taken_56 rfl rfl ?_
          refine g_iload_n (pc' := 59) C 4 d_OL_taken_58 rfl rfl ?_
          replace hf := g_bi hf; obtain ⟨r11, hc12, hf⟩ := hf
          refine g_callS (pc' := 62) (st1 := [.int (b2i r11)]) (ws1 := [O_OL a_o a_o_wall a_o_imageOfWall x_o_imageIsKept a_o_rules a_o_tape a_o_costs a_o_thought a_o_acts a_o_shelves, A_Q dA a_o_shelves 6 x_o_shelves, O_Sh a_o_shelves_ep1 x_o_shelves_ep1_holds x_o_shelves_ep1_body x_o_shelves_ep1_sort x_o_shelves_ep1_length a_o_shelves_ep1_elements, O_Ac a_o_acts a_o_acts_kinds x_o_acts_bodies a_o_acts_trace x_o_acts_ran x_o_acts_number, A_I dA a_o_acts_kinds 50 x_o_acts_kinds]) C (c_Ac_isUnder (l := l) (D := D) (dA := dA)    hc12) yy_Ac_isUnder mw_4_126 d_OL_taken_59 rfl [] rfl rfl (Nat.le_of_ble_eq_true rfl) ⟨Nat.le_of_ble_eq_true rfl, Nat.le_of_ble_eq_true rfl⟩ rfl rfl (Nat.zero_le _) (Nat.zero_le _) [] rfl (by decide +kernel) rfl (g_lay_sel _ _ _ _ [(0, false), (1, false), (2, false), (3, false), (4, false)] (by decide +kernel) rfl (by decide +kernel) rfl rfl) rfl ?_
          refine g_if_eqb (pc' := 65) (tgt := 70) C d_OL_taken_62 rfl rfl (fun h => ?_) (fun h => ?_)
          · replace hf := g_bf h hf
            refine g_bipush (pc' := 72) (v := (-12)) C d_OL_taken_70 rfl rfl ?_
            replace hf := Option.some.inj hf; subst hf
            exact g_iret C d_OL_taken_72 () rfl
          · replace hf := g_bt h hf
            refine g_iload (pc' := 67) C 0 d_OL_taken_65 rfl rfl ?_
            refine g_goto (tgt := 72) C d_OL_taken_67 rfl ?_
            replace hf := Option.some.inj hf; subst hf
            exact g_iret C d_OL_taken_72 () rfl
        · replace hf := g_bf h hf
          refine g_bipush (pc' := 42) (v := (-12)) C d_OL_taken_40 rfl rfl ?_
          replace hf := Option.some.inj hf; subst hf
          exact g_iret C d_OL_taken_42 () rfl
      · replace hf := g_bt h hf
        refine g_bipush (pc' := 32) (v := (-11)) C d_OL_taken_30 rfl rfl ?_
        replace hf := Option.some.inj hf; subst hf
        exact g_iret C d_OL_taken_32 () rfl
    · replace hf := g_bf h hf
      refine g_iconst (pc' := 15) (v := (-1)) C d_OL_taken_14 rfl rfl ?_
      replace hf := Option.some.inj hf; subst hf
      exact g_iret C d_OL_taken_15 () rfl
def y_OL_count : MethodName := ⟨"OneLamp", "count", "(I)I"⟩
theorem yy_OL_count : YV y_OL_count prog_1_method_36_code 2 (some .int) 1 := ⟨mw_4_132, mw_1_1, mw_4_130, mw_4_131, by decide +kernel, by decide +kernel, by decide +kernel⟩
theorem d_OL_count_0 : decode prog_1_method_36_code 0 = .ok (.iload_n 1, 1) := by decide +kernel
theorem d_OL_count_1 : decode prog_1_method_36_code 1 = .ok (.tableswitch 78 0 4 #[35, 46, 54, 62, 70], 35) := by decide +kernel
theorem d_OL_count_36 : decode prog_1_method_36_code 36 = .ok (.aload_n 0, 1) := by decide +kernel
theorem d_OL_count_37 : decode prog_1_method_36_code 37 = .ok (.getfield 10, 3) := by decide +kernel
theorem d_OL_count_40 : decode prog_1_method_36_code 40 = .ok (.getfield 65, 3) := by decide +kernel
theorem d_OL_count_43 : decode prog_1_method_36_code 43 = .ok (.invokevirtual 148, 3) := by decide +kernel
theorem d_OL_count_46 : decode prog_1_method_36_code 46 = .ok (.ireturn, 1) := by decide +kernel
theorem d_OL_count_47 : decode prog_1_method_36_code 47 = .ok (.aload_n 0, 1) := by decide +kernel
theorem d_OL_count_48 : decode prog_1_method_36_code 48 = .ok (.getfield 29, 3) := by decide +kernel
theorem d_OL_count_51 : decode prog_1_method_36_code 51 = .ok (.getfield 107, 3) := by decide +kernel
theorem d_OL_count_54 : decode prog_1_method_36_code 54 = .ok (.ireturn, 1) := by decide +kernel
theorem d_OL_count_55 : decode prog_1_method_36_code 55 = .ok (.aload_n 0, 1) := by decide +kernel
theorem d_OL_count_56 : decode prog_1_method_36_code 56 = .ok (.getfield 36, 3) := by decide +kernel
theorem d_OL_count_59 : decode prog_1_method_36_code 59 = .ok (.getfield 233, 3) := by decide +kernel
theorem d_OL_count_62 : decode prog_1_method_36_code 62 = .ok (.ireturn, 1) := by decide +kernel
theorem d_OL_count_63 : decode prog_1_method_36_code 63 = .ok (.aload_n 0, 1) := by decide +kernel
theorem d_OL_count_64 : decode prog_1_method_36_code 64 = .ok (.getfield 50, 3) := by decide +kernel
theorem d_OL_count_67 : decode prog_1_method_36_code 67 = .ok (.getfield 246, 3) := by decide +kernel
theorem d_OL_count_70 : decode prog_1_method_36_code 70 = .ok (.ireturn, 1) := by decide +kernel
theorem d_OL_count_71 : decode prog_1_method_36_code 71 = .ok (.aload_n 0, 1) := by decide +kernel
theorem d_OL_count_72 : decode prog_1_method_36_code 72 = .ok (.getfield 50, 3) := by decide +kernel
theorem d_OL_count_75 : decode prog_1_method_36_code 75 = .ok (.getfield 308, 3) := by decide +kernel
theorem d_OL_count_78 : decode prog_1_method_36_code 78 = .ok (.ireturn, 1) := by decide +kernel
theorem d_OL_count_79 : decode prog_1_method_36_code 79 = .ok (.iconst (-1), 1) := by decide +kernel
theorem d_OL_count_80 : decode prog_1_method_36_code 80 = .ok (.ireturn, 1) := by decide +kernel
def f_OL_count  (p1 : Int32) (x_o_acts_bodies : Int32) (x_o_acts_ran : Int32) (x_o_costs_done : Int32) (x_o_tape_length : Int32) (x_o_wall_told_words : Nat → Int64) : Option (Int32) :=
  if p1 = 0 then
    ((f_Pi_size  x_o_wall_told_words).bind fun r1 =>
    some (r1))
  else
  (if p1 = 1 then
    (some (x_o_tape_length))
  else
  (if p1 = 2 then
    (some (x_o_costs_done))
  else
  (if p1 = 3 then
    (some (x_o_acts_bodies))
  else
  (if p1 = 4 then
    (some (x_o_acts_ran))
  else
  (some ((-1 : Int32)))))))
set_option maxRecDepth 20000 in
theorem c_OL_count {l : Launch} {D : va_G} {dA : Nat → ClassId} {a_o a_o_wall a_o_imageOfWall a_o_rules a_o_tape a_o_costs a_o_thought a_o_acts a_o_shelves a_o_acts_kinds a_o_acts_trace a_o_costs_prices a_o_costs_lamps a_o_costs_before a_o_costs_after a_o_costs_sorted a_o_tape_letters a_o_tape_code a_o_wall_had a_o_wall_told a_o_wall_last a_o_wall_often a_o_wall_told_words : Nat} {x_o_imageIsKept : Bool} {x_o_acts_number : Int32} {x_o_costs_undone : Int32} {x_o_tape_codeLength : Int32} {x_o_tape_at : Int32} {x_o_wall_lamps : Int32} {x_o_wall_picture : Int32} {x_o_wall_night : Int32} {x_o_wall_spent : Int32} {p1 : Int32} {x_o_acts_bodies : Int32} {x_o_acts_ran : Int32} {x_o_costs_done : Int32} {x_o_tape_length : Int32} {x_o_wall_told_words : Nat → Int64} {r0 : Int32}   (hf : f_OL_count  p1 x_o_acts_bodies x_o_acts_ran x_o_costs_done x_o_tape_length x_o_wall_told_words = some r0) : CT l y_OL_count prog_1_method_36_code 2 (some .int) { frames := 2, cells := 0, slots := 0, locals := 47 } D dA [.ref a_o, .int p1] [O_OL a_o a_o_wall a_o_imageOfWall x_o_imageIsKept a_o_rules a_o_tape a_o_costs a_o_thought a_o_acts a_o_shelves, O_Ac a_o_acts a_o_acts_kinds x_o_acts_bodies a_o_acts_trace x_o_acts_ran x_o_acts_number, O_Co a_o_costs a_o_costs_prices a_o_costs_lamps a_o_costs_before a_o_costs_after a_o_costs_sorted x_o_costs_done x_o_costs_undone, O_Ta a_o_tape a_o_tape_letters x_o_tape_length a_o_tape_code x_o_tape_codeLength x_o_tape_at, O_Wa a_o_wall x_o_wall_lamps x_o_wall_picture x_o_wall_night x_o_wall_spent a_o_wall_had a_o_wall_told a_o_wall_last a_o_wall_often, O_Pi a_o_wall_told a_o_wall_told_words, A_J dA a_o_wall_told_words 16 x_o_wall_told_words] (some (.int r0)) (fun _ : Unit => [O_OL a_o a_o_wall a_o_imageOfWall x_o_imageIsKept a_o_rules a_o_tape a_o_costs a_o_thought a_o_acts a_o_shelves, O_Ac a_o_acts a_o_acts_kinds x_o_acts_bodies a_o_acts_trace x_o_acts_ran x_o_acts_number, O_Co a_o_costs a_o_costs_prices a_o_costs_lamps a_o_costs_before a_o_costs_after a_o_costs_sorted x_o_costs_done x_o_costs_undone, O_Ta a_o_tape a_o_tape_letters x_o_tape_length a_o_tape_code x_o_tape_codeLength x_o_tape_at, O_Wa a_o_wall x_o_wall_lamps x_o_wall_picture x_o_wall_night x_o_wall_spent a_o_wall_had a_o_wall_told a_o_wall_last a_o_wall_often, O_Pi a_o_wall_told a_o_wall_told_words, A_J dA a_o_wall_told_words 16 x_o_wall_told_words]) := by
  refine ct_intro "OneLamp" rfl (by decide +kernel) (Nat.le_of_ble_eq_true rfl) [(0, .ref a_o), (1, .int p1)] rfl (fun _ C => ?_)
  unfold f_OL_count at hf
  refine g_iload_n (pc' := 1) C 1 d_OL_count_0 rfl rfl ?_
  by_cases q0 : p1 = 0
  · replace hf := g_ip q0 hf
    have e : (p1 : Int32).toInt = 0 := by rw [q0]; rfl
    refine g_tableIn (off := 35) (tgt := 36) C d_OL_count_1 (by rw [e]; decide) (by rw [e]; decide) (by rw [e]; rfl) rfl ?_
    refine g_aload_n (pc' := 37) C 0 d_OL_count_36 rfl rfl ?_
    refine g_get (pc' := 40) C kf_OL 0 mw_2_44 d_OL_count_37 rfl 0 rfl (by decide) rfl ?_
    refine g_get (pc' := 43) C kf_Wa 5 mw_1_81 d_OL_count_40 rfl 4 rfl (by decide) rfl ?_
    replace hf := g_bi hf; obtain ⟨r1, hc2, hf⟩ := hf
    refine g_callV (pc' := 46) (st1 := [.int r1]) (ws1 := [O_OL a_o a_o_wall a_o_imageOfWall x_o_imageIsKept a_o_rules a_o_tape a_o_costs a_o_thought a_o_acts a_o_shelves, O_Ac a_o_acts a_o_acts_kinds x_o_acts_bodies a_o_acts_trace x_o_acts_ran x_o_acts_number, O_Co a_o_costs a_o_costs_prices a_o_costs_lamps a_o_costs_before a_o_costs_after a_o_costs_sorted x_o_costs_done x_o_costs_undone, O_Ta a_o_tape a_o_tape_letters x_o_tape_length a_o_tape_code x_o_tape_codeLength x_o_tape_at, O_Wa a_o_wall x_o_wall_lamps x_o_wall_picture x_o_wall_night x_o_wall_spent a_o_wall_had a_o_wall_told a_o_wall_last a_o_wall_often, O_Pi a_o_wall_told a_o_wall_told_words, A_J dA a_o_wall_told_words 16 x_o_wall_told_words]) C (c_Pi_size (l := l) (D := D) (dA := dA) (a_o := a_o_wall_told) (a_o_words := a_o_wall_told_words)   hc2) yy_Pi_size kf_Pi rfl mw_2_205 d_OL_count_43 rfl [] rfl rfl (Nat.le_of_ble_eq_true rfl) ⟨Nat.le_of_ble_eq_true rfl, Nat.le_of_ble_eq_true rfl⟩ rfl rfl (Nat.zero_le _) (Nat.zero_le _) 5 rfl [5, 6] rfl (by decide +kernel) rfl (g_lay_sel _ _ _ _ [(0, false), (1, false), (2, false), (3, false), (4, false), (0, true), (1, true)] (by decide +kernel) rfl (by decide +kernel) rfl rfl) rfl ?_
    replace hf := Option.some.inj hf; subst hf
    exact g_iret C d_OL_count_46 () rfl
  replace hf := g_in q0 hf
  by_cases q1 : p1 = 1
  · replace hf := g_ip q1 hf
    have e : (p1 : Int32).toInt = 1 := by rw [q1]; rfl
    refine g_tableIn (off := 46) (tgt := 47) C d_OL_count_1 (by rw [e]; decide) (by rw [e]; decide) (by rw [e]; rfl) rfl ?_
    refine g_aload_n (pc' := 48) C 0 d_OL_count_47 rfl rfl ?_
    refine g_get (pc' := 51) C kf_OL 4 mw_2_48 d_OL_count_48 rfl 0 rfl (by decide) rfl ?_
    refine g_get (pc' := 54) C kf_Ta 1 mw_1_159 d_OL_count_51 rfl 3 rfl (by decide) rfl ?_
    replace hf := Option.some.inj hf; subst hf
    exact g_iret C d_OL_count_54 () rfl
  replace hf := g_in q1 hf
  by_cases q2 : p1 = 2
  · replace hf := g_ip q2 hf
    have e : (p1 : Int32).toInt = 2 := by rw [q2]; rfl
    refine g_tableIn (off := 54) (tgt := 55) C d_OL_count_1 (by rw [e]; decide) (by rw [e]; decide) (by rw [e]; rfl) rfl ?_
    refine g_aload_n (pc' := 56) C 0 d_OL_count_55 rfl rfl ?_
    refine g_get (pc' := 59) C kf_OL 5 mw_2_49 d_OL_count_56 rfl 0 rfl (by decide) rfl ?_
    refine g_get (pc' := 62) C kf_Co 5 mw_1_189 d_OL_count_59 rfl 2 rfl (by decide) rfl ?_
    replace hf := Option.some.inj hf; subst hf
    exact g_iret C d_OL_count_62 () rfl
  replace hf := g_in q2 hf
  by_cases q3 : p1 = 3
  · replace hf := g_ip q3 hf
    have e : (p1 : Int32).toInt = 3 := by rw [q3]; rfl
    refine g_tableIn (off := 62) (tgt := 63) C d_OL_count_1 (by rw [e]; decide) (by rw [e]; decide) (by rw [e]; rfl) rfl ?_
    refine g_aload_n (pc' := 64) C 0 d_OL_count_63 rfl rfl ?_
    refine g_get (pc' := 67) C kf_OL 7 mw_2_51 d_OL_count_64 rfl 0 rfl (by decide) rfl ?_
    refine g_get (pc' := 70) C kf_Ac 1 mw_2_2 d_OL_count_67 rfl 1 rfl (by decide) rfl ?_
    replace hf := Option.some.inj hf; subst hf
    exact g_iret C d_OL_count_70 () rfl
  replace hf := g_in q3 hf
  by_cases q4 : p1 = 4
  · replace hf := g_ip q4 hf
    have e : (p1 : Int32).toInt = 4 := by rw [q4]; rfl
    refine g_tableIn (off := 70) (tgt := 71) C d_OL_count_1 (by rw [e]; decide) (by rw [e]; decide) (by rw [e]; rfl) rfl ?_
    refine g_aload_n (pc' := 72) C 0 d_OL_count_71 rfl rfl ?_
    refine g_get (pc' := 75) C kf_OL 7 mw_2_51 d_OL_count_72 rfl 0 rfl (by decide) rfl ?_
    refine g_get (pc' := 78) C kf_Ac 3 mw_2_5 d_OL_count_75 rfl 1 rfl (by decide) rfl ?_
    replace hf := Option.some.inj hf; subst hf
    exact g_iret C d_OL_count_78 () rfl
  replace hf := g_in q4 hf
  refine g_tableOut (tgt := 79) C d_OL_count_1 (by have e0 := lv_neT q0 (show (0 : Int32).toInt = 0 from rfl); have e1 := lv_neT q1 (show (1 : Int32).toInt = 1 from rfl); have e2 := lv_neT q2 (show (2 : Int32).toInt = 2 from rfl); have e3 := lv_neT q3 (show (3 : Int32).toInt = 3 from rfl); have e4 := lv_neT q4 (show (4 : Int32).toInt = 4 from rfl); omega) rfl ?_
  refine g_iconst (pc' := 80) (v := (-1)) C d_OL_count_79 rfl rfl ?_
  replace hf := Option.some.inj hf; subst hf
  exact g_iret C d_OL_count_80 () rfl
