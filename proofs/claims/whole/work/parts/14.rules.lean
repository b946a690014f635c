def y_Ru_takeLaw : MethodName := ⟨"OneLamp$Rules", "takeLaw", "([II)V"⟩
theorem yy_Ru_takeLaw : YV y_Ru_takeLaw prog_6_method_2_code 3 none 2 := ⟨mw_2_166, mw_1_5, mw_2_164, mw_2_165, by decide +kernel, by decide +kernel, by decide +kernel⟩
theorem d_Ru_takeLaw_0 : decode prog_6_method_2_code 0 = .ok (.aload_n 0, 1) := by decide +kernel
theorem d_Ru_takeLaw_1 : decode prog_6_method_2_code 1 = .ok (.getfield 12, 3) := by decide +kernel
theorem d_Ru_takeLaw_4 : decode prog_6_method_2_code 4 = .ok (.aload_n 1, 1) := by decide +kernel
theorem d_Ru_takeLaw_5 : decode prog_6_method_2_code 5 = .ok (.iload_n 2, 1) := by decide +kernel
theorem d_Ru_takeLaw_6 : decode prog_6_method_2_code 6 = .ok (.invokevirtual 28, 3) := by decide +kernel
theorem d_Ru_takeLaw_9 : decode prog_6_method_2_code 9 = .ok (.aload_n 0, 1) := by decide +kernel
theorem d_Ru_takeLaw_10 : decode prog_6_method_2_code 10 = .ok (.getfield 21, 3) := by decide +kernel
theorem d_Ru_takeLaw_13 : decode prog_6_method_2_code 13 = .ok (.invokevirtual 32, 3) := by decide +kernel
theorem d_Ru_takeLaw_16 : decode prog_6_method_2_code 16 = .ok (.return_, 1) := by decide +kernel
def f_Ru_takeLaw  (p2 : Int32) (x_p1 : Nat → Int32) (n_p1 : Nat) (x_o_law_length : Int32) (x_o_law_code : Nat → Int32) (x_o_asked_words : Nat → Int64) : Option (Int32 × (Nat → Int32) × (Nat → Int64)) :=
  (f_La_become  p2 x_p1 n_p1 x_o_law_length x_o_law_code).bind fun (u1, u2) =>
  (f_Pi_empty  x_o_asked_words).bind fun u4 =>
  some (u1, u2, u4)
set_option maxRecDepth 20000 in
theorem c_Ru_takeLaw {l : Launch} {D : va_G} {dA : Nat → ClassId} {a_o a_p1 a_o_law a_o_asked a_o_forbidden a_o_law_code a_o_law_stack a_o_asked_words : Nat} {x_o_rest : Int32} {x_o_shy : Int32} {x_o_askedForLamps : Int32} {x_o_law_top : Int32} {p2 : Int32} {x_p1 : Nat → Int32} {n_p1 : Nat} {x_o_law_length : Int32} {x_o_law_code : Nat → Int32} {x_o_asked_words : Nat → Int64} {o_x_o_law_length : Int32} {o_x_o_law_code : Nat → Int32} {o_x_o_asked_words : Nat → Int64}   (hf : f_Ru_takeLaw  p2 x_p1 n_p1 x_o_law_length x_o_law_code x_o_asked_words = some (o_x_o_law_length, o_x_o_law_code, o_x_o_asked_words)) : CT l y_Ru_takeLaw prog_6_method_2_code 3 none { frames := 2, cells := 0, slots := 0, locals := 62 } D dA [.ref a_o, .ref a_p1, .int p2] [O_Ru a_o x_o_rest x_o_shy a_o_law a_o_asked a_o_forbidden x_o_askedForLamps, A_I dA a_p1 n_p1 x_p1, O_La a_o_law a_o_law_code x_o_law_length a_o_law_stack x_o_law_top, A_I dA a_o_law_code 256 x_o_law_code, O_Pi a_o_asked a_o_asked_words, A_J dA a_o_asked_words 16 x_o_asked_words] none (fun _ : Unit => [O_Ru a_o x_o_rest x_o_shy a_o_law a_o_asked a_o_forbidden x_o_askedForLamps, A_I dA a_p1 n_p1 x_p1, O_La a_o_law a_o_law_code o_x_o_law_length a_o_law_stack x_o_law_top, A_I dA a_o_law_code 256 o_x_o_law_code, O_Pi a_o_asked a_o_asked_words, A_J dA a_o_asked_words 16 o_x_o_asked_words]) := by
  refine ct_intro "OneLamp$Rules" rfl (by decide +kernel) (Nat.le_of_ble_eq_true rfl) [(0, .ref a_o), (1, .ref a_p1), (2, .int p2)] rfl (fun _ C => ?_)
  unfold f_Ru_takeLaw at hf
  refine g_aload_n (pc' := 1) C 0 d_Ru_takeLaw_0 rfl rfl ?_
  refine g_get (pc' := 4) C kf_Ru 2 mw_1_134 d_Ru_takeLaw_1 rfl 0 rfl (by decide) rfl ?_
  refine g_aload_n (pc' := 5) C 1 d_Ru_takeLaw_4 rfl rfl ?_
  refine g_iload_n (pc' := 6) C 2 d_Ru_takeLaw_5 rfl rfl ?_
  replace hf := g_bi hf; obtain ⟨⟨u1, u2⟩, hc3, hf⟩ := hf
  dsimp only at hf
  refine g_callV (pc' := 9) (st1 := []) (ws1 := [O_Ru a_o x_o_rest x_o_shy a_o_law a_o_asked a_o_forbidden x_o_askedForLamps, A_I dA a_p1 n_p1 x_p1, O_La a_o_law a_o_law_code u1 a_o_law_stack x_o_law_top, A_I dA a_o_law_code 256 u2, O_Pi a_o_asked a_o_asked_words, A_J dA a_o_asked_words 16 x_o_asked_words]) C (c_La_become (l := l) (D := D) (dA := dA) (a_o := a_o_law) (a_p1 := a_p1) (a_o_code := a_o_law_code) (a_o_stack := a_o_law_stack) (x_o_top := x_o_law_top)   hc3) yy_La_become kf_La rfl mw_2_167 d_Ru_takeLaw_6 rfl [] rfl rfl (Nat.le_of_ble_eq_true rfl) ⟨Nat.le_of_ble_eq_true rfl, Nat.le_of_ble_eq_true rfl⟩ rfl rfl (Nat.zero_le _) (Nat.zero_le _) 2 rfl [1, 2, 3] rfl (by decide +kernel) rfl (g_lay_sel _ _ _ _ [(0, false), (0, true), (1, true), (2, true), (4, false), (5, false)] (by decide +kernel) rfl (by decide +kernel) rfl rfl) rfl ?_
  refine g_aload_n (pc' := 10) C 0 d_Ru_takeLaw_9 rfl rfl ?_
  refine g_get (pc' := 13) C kf_Ru 3 mw_1_135 d_Ru_takeLaw_10 rfl 0 rfl (by decide) rfl ?_
  replace hf := g_bi hf; obtain ⟨u4, hc5, hf⟩ := hf
  refine g_callV (pc' := 16) (st1 := []) (ws1 := [O_Ru a_o x_o_rest x_o_shy a_o_law a_o_asked a_o_forbidden x_o_askedForLamps, A_I dA a_p1 n_p1 x_p1, O_La a_o_law a_o_law_code u1 a_o_law_stack x_o_law_top, A_I dA a_o_law_code 256 u2, O_Pi a_o_asked a_o_asked_words, A_J dA a_o_asked_words 16 u4]) C (c_Pi_empty (l := l) (D := D) (dA := dA) (a_o := a_o_asked) (a_o_words := a_o_asked_words)   hc5) yy_Pi_empty kf_Pi rfl mw_2_174 d_Ru_takeLaw_13 rfl [] rfl rfl (Nat.le_of_ble_eq_true rfl) ⟨Nat.le_of_ble_eq_true rfl, Nat.le_of_ble_eq_true rfl⟩ rfl rfl (Nat.zero_le _) (Nat.zero_le _) 4 rfl [4, 5] rfl (by decide +kernel) rfl (g_lay_sel _ _ _ _ [(0, false), (1, false), (2, false), (3, false), (0, true), (1, true)] (by decide +kernel) rfl (by decide +kernel) rfl rfl) rfl ?_
  replace hf := g_o2 hf; obtain ⟨h1, hf⟩ := hf; subst h1
  replace hf := g_o2 hf; obtain ⟨h1, hf⟩ := hf; subst h1
  replace hf := Option.some.inj hf; subst hf
  exact g_vret C d_Ru_takeLaw_16 () rfl
def y_Ru_isBarred : MethodName := ⟨"OneLamp$Rules", "isBarred", "(LOneLamp$Wall;I)Z"⟩
theorem yy_Ru_isBarred : YV y_Ru_isBarred prog_6_method_3_code 3 (some .boolean) 2 := ⟨mw_2_226, mw_1_5, mw_2_224, mw_2_225, by decide +kernel, by decide +kernel, by decide +kernel⟩
theorem d_Ru_isBarred_0 : decode prog_6_method_3_code 0 = .ok (.aload_n 1, 1) := by decide +kernel
theorem d_Ru_isBarred_1 : decode prog_6_method_3_code 1 = .ok (.getfield 35, 3) := by decide +kernel
theorem d_Ru_isBarred_4 : decode prog_6_method_3_code 4 = .ok (.aload_n 0, 1) := by decide +kernel
theorem d_Ru_isBarred_5 : decode prog_6_method_3_code 5 = .ok (.getfield 41, 3) := by decide +kernel
theorem d_Ru_isBarred_8 : decode prog_6_method_3_code 8 = .ok (.if_icmp .eq 18, 3) := by decide +kernel
theorem d_Ru_isBarred_11 : decode prog_6_method_3_code 11 = .ok (.aload_n 0, 1) := by decide +kernel
theorem d_Ru_isBarred_12 : decode prog_6_method_3_code 12 = .ok (.getfield 21, 3) := by decide +kernel
theorem d_Ru_isBarred_15 : decode prog_6_method_3_code 15 = .ok (.invokevirtual 32, 3) := by decide +kernel
theorem d_Ru_isBarred_18 : decode prog_6_method_3_code 18 = .ok (.aload_n 0, 1) := by decide +kernel
theorem d_Ru_isBarred_19 : decode prog_6_method_3_code 19 = .ok (.aload_n 1, 1) := by decide +kernel
theorem d_Ru_isBarred_20 : decode prog_6_method_3_code 20 = .ok (.getfield 35, 3) := by decide +kernel
theorem d_Ru_isBarred_23 : decode prog_6_method_3_code 23 = .ok (.putfield 41, 3) := by decide +kernel
theorem d_Ru_isBarred_26 : decode prog_6_method_3_code 26 = .ok (.aload_n 0, 1) := by decide +kernel
theorem d_Ru_isBarred_27 : decode prog_6_method_3_code 27 = .ok (.getfield 21, 3) := by decide +kernel
theorem d_Ru_isBarred_30 : decode prog_6_method_3_code 30 = .ok (.iload_n 2, 1) := by decide +kernel
theorem d_Ru_isBarred_31 : decode prog_6_method_3_code 31 = .ok (.invokevirtual 44, 3) := by decide +kernel
theorem d_Ru_isBarred_34 : decode prog_6_method_3_code 34 = .ok (.ifCond .ne 42, 3) := by decide +kernel
theorem d_Ru_isBarred_37 : decode prog_6_method_3_code 37 = .ok (.aload_n 0, 1) := by decide +kernel
theorem d_Ru_isBarred_38 : decode prog_6_method_3_code 38 = .ok (.getfield 21, 3) := by decide +kernel
theorem d_Ru_isBarred_41 : decode prog_6_method_3_code 41 = .ok (.iload_n 2, 1) := by decide +kernel
theorem d_Ru_isBarred_42 : decode prog_6_method_3_code 42 = .ok (.invokevirtual 48, 3) := by decide +kernel
theorem d_Ru_isBarred_45 : decode prog_6_method_3_code 45 = .ok (.aload_n 0, 1) := by decide +kernel
theorem d_Ru_isBarred_46 : decode prog_6_method_3_code 46 = .ok (.getfield 25, 3) := by decide +kernel
theorem d_Ru_isBarred_49 : decode prog_6_method_3_code 49 = .ok (.iload_n 2, 1) := by decide +kernel
theorem d_Ru_isBarred_50 : decode prog_6_method_3_code 50 = .ok (.invokevirtual 52, 3) := by decide +kernel
theorem d_Ru_isBarred_53 : decode prog_6_method_3_code 53 = .ok (.aload_n 0, 1) := by decide +kernel
theorem d_Ru_isBarred_54 : decode prog_6_method_3_code 54 = .ok (.getfield 12, 3) := by decide +kernel
theorem d_Ru_isBarred_57 : decode prog_6_method_3_code 57 = .ok (.iload_n 2, 1) := by decide +kernel
theorem d_Ru_isBarred_58 : decode prog_6_method_3_code 58 = .ok (.aload_n 1, 1) := by decide +kernel
theorem d_Ru_isBarred_59 : decode prog_6_method_3_code 59 = .ok (.getfield 35, 3) := by decide +kernel
theorem d_Ru_isBarred_62 : decode prog_6_method_3_code 62 = .ok (.invokevirtual 55, 3) := by decide +kernel
theorem d_Ru_isBarred_65 : decode prog_6_method_3_code 65 = .ok (.ifCond .eq 11, 3) := by decide +kernel
theorem d_Ru_isBarred_68 : decode prog_6_method_3_code 68 = .ok (.aload_n 0, 1) := by decide +kernel
theorem d_Ru_isBarred_69 : decode prog_6_method_3_code 69 = .ok (.getfield 25, 3) := by decide +kernel
theorem d_Ru_isBarred_72 : decode prog_6_method_3_code 72 = .ok (.iload_n 2, 1) := by decide +kernel
theorem d_Ru_isBarred_73 : decode prog_6_method_3_code 73 = .ok (.invokevirtual 48, 3) := by decide +kernel
theorem d_Ru_isBarred_76 : decode prog_6_method_3_code 76 = .ok (.aload_n 1, 1) := by decide +kernel
theorem d_Ru_isBarred_77 : decode prog_6_method_3_code 77 = .ok (.getfield 59, 3) := by decide +kernel
theorem d_Ru_isBarred_80 : decode prog_6_method_3_code 80 = .ok (.iload_n 2, 1) := by decide +kernel
theorem d_Ru_isBarred_81 : decode prog_6_method_3_code 81 = .ok (.invokevirtual 44, 3) := by decide +kernel
theorem d_Ru_isBarred_84 : decode prog_6_method_3_code 84 = .ok (.ifCond .ne 14, 3) := by decide +kernel
theorem d_Ru_isBarred_87 : decode prog_6_method_3_code 87 = .ok (.aload_n 0, 1) := by decide +kernel
theorem d_Ru_isBarred_88 : decode prog_6_method_3_code 88 = .ok (.getfield 25, 3) := by decide +kernel
theorem d_Ru_isBarred_91 : decode prog_6_method_3_code 91 = .ok (.iload_n 2, 1) := by decide +kernel
theorem d_Ru_isBarred_92 : decode prog_6_method_3_code 92 = .ok (.invokevirtual 44, 3) := by decide +kernel
theorem d_Ru_isBarred_95 : decode prog_6_method_3_code 95 = .ok (.ifCond .eq 7, 3) := by decide +kernel
theorem d_Ru_isBarred_98 : decode prog_6_method_3_code 98 = .ok (.iconst 1, 1) := by decide +kernel
theorem d_Ru_isBarred_99 : decode prog_6_method_3_code 99 = .ok (.goto 4, 3) := by decide +kernel
theorem d_Ru_isBarred_102 : decode prog_6_method_3_code 102 = .ok (.iconst 0, 1) := by decide +kernel
theorem d_Ru_isBarred_103 : decode prog_6_method_3_code 103 = .ok (.ireturn, 1) := by decide +kernel
def f_Ru_isBarred_L76   (v2 : Int32) (x_o_askedForLamps : Int32) (x_o_asked_words : Nat → Int64) (x_o_forbidden_words : Nat → Int64) (x_o_law_top : Int32) (x_o_law_stack : Nat → Int32) (x_p1_told_words : Nat → Int64) : Option (Bool × Int32 × (Nat → Int64) × (Nat → Int64) × Int32 × (Nat → Int32)) :=
  (f_Pi_holds  v2 x_p1_told_words).bind fun r13 =>
  if r13 = true then
    (some (true, x_o_askedForLamps, x_o_asked_words, x_o_forbidden_words, x_o_law_top, x_o_law_stack))
  else
    ((f_Pi_holds  v2 x_o_forbidden_words).bind fun r15 =>
    if r15 = true then
      (some (true, x_o_askedForLamps, x_o_asked_words, x_o_forbidden_words, x_o_law_top, x_o_law_stack))
    else
      (some (false, x_o_askedForLamps, x_o_asked_words, x_o_forbidden_words, x_o_law_top, x_o_law_stack)))
set_option maxRecDepth 20000 in
theorem w_Ru_isBarred_L76 {p : Program} {l : Launch} {e : Env} {s : State} {m : MethodId} {args : Array Value} {below : List Frame} {meth : Method} {c : Code} {D : va_G} {dA : Nat → ClassId} {A : Nat → Prop} (C : GC p s m args meth c prog_6_method_3_code 3 "OneLamp$Rules" (some .boolean) D dA A) {a_o a_p1 a_p1_had a_p1_told a_p1_last a_p1_often a_o_law a_o_asked a_o_forbidden a_o_asked_words a_o_forbidden_words a_o_law_code a_o_law_stack a_p1_told_words : Nat} {x_p1_lamps : Int32} {x_p1_picture : Int32} {x_p1_night : Int32} {x_p1_spent : Int32} {x_o_rest : Int32} {x_o_shy : Int32} {x_o_law_length : Int32} {x_o_law_code : Nat → Int32} {r0 : Bool} {o_x_o_askedForLamps : Int32} {o_x_o_asked_words : Nat → Int64} {o_x_o_forbidden_words : Nat → Int64} {o_x_o_law_top : Int32} {o_x_o_law_stack : Nat → Int32}    (v2 : Int32) (x_o_askedForLamps : Int32) (x_o_asked_words : Nat → Int64) (x_o_forbidden_words : Nat → Int64) (x_o_law_top : Int32) (x_o_law_stack : Nat → Int32) (x_p1_told_words : Nat → Int64) (hf : f_Ru_isBarred_L76   v2 x_o_askedForLamps x_o_asked_words x_o_forbidden_words x_o_law_top x_o_law_stack x_p1_told_words = some (r0, o_x_o_askedForLamps, o_x_o_asked_words, o_x_o_forbidden_words, o_x_o_law_top, o_x_o_law_stack)) : GG p l e { frames := 3, cells := 0, slots := 0, locals := 70 } s m args below meth c 3 D A 0 0 (MQ below (cQ D A (some (.int (b2i r0))) (fun _ : Unit => [O_Wa a_p1 x_p1_lamps x_p1_picture x_p1_night x_p1_spent a_p1_had a_p1_told a_p1_last a_p1_often, O_Ru a_o x_o_rest x_o_shy a_o_law a_o_asked a_o_forbidden o_x_o_askedForLamps, O_Pi a_o_asked a_o_asked_words, A_J dA a_o_asked_words 16 o_x_o_asked_words, O_Pi a_o_forbidden a_o_forbidden_words, A_J dA a_o_forbidden_words 16 o_x_o_forbidden_words, O_La a_o_law a_o_law_code x_o_law_length a_o_law_stack o_x_o_law_top, A_I dA a_o_law_code 256 x_o_law_code, A_I dA a_o_law_stack 256 o_x_o_law_stack, O_Pi a_p1_told a_p1_told_words, A_J dA a_p1_told_words 16 x_p1_told_words])) args s 0 0 A) 76 [(0, .ref a_o), (1, .ref a_p1), (2, .int v2)] [] [O_Wa a_p1 x_p1_lamps x_p1_picture x_p1_night x_p1_spent a_p1_had a_p1_told a_p1_last a_p1_often, O_Ru a_o x_o_rest x_o_shy a_o_law a_o_asked a_o_forbidden x_o_askedForLamps, O_Pi a_o_asked a_o_asked_words, A_J dA a_o_asked_words 16 x_o_asked_words, O_Pi a_o_forbidden a_o_forbidden_words, A_J dA a_o_forbidden_words 16 x_o_forbidden_words, O_La a_o_law a_o_law_code x_o_law_length a_o_law_stack x_o_law_top, A_I dA a_o_law_code 256 x_o_law_code, A_I dA a_o_law_stack 256 x_o_law_stack, O_Pi a_p1_told a_p1_told_words, A_J dA a_p1_told_words 16 x_p1_told_words] := by
  unfold f_Ru_isBarred_L76 at hf
  refine g_aload_n (pc' := 77) C 1 d_Ru_isBarred_76 rfl rfl ?_
  refine g_get (pc' := 80) C kf_Wa 5 mw_1_82 d_Ru_isBarred_77 rfl 0 rfl (by decide) rfl ?_
  refine g_iload_n (pc' := 81) C 2 d_Ru_isBarred_80 rfl rfl ?_
  replace hf := g_bi hf; obtain ⟨r13, hc14, hf⟩ := hf
  refine g_callV (pc' := 84) (st1 := [.int (b2i r13)]) (ws1 := [O_Wa a_p1 x_p1_lamps x_p1_picture x_p1_night x_p1_spent a_p1_had a_p1_told a_p1_last a_p1_often, O_Ru a_o x_o_rest x_o_shy a_o_law a_o_asked a_o_forbidden x_o_askedForLamps, O_Pi a_o_asked a_o_asked_words, A_J dA a_o_asked_words 16 x_o_asked_words, O_Pi a_o_forbidden a_o_forbidden_words, A_J dA a_o_forbidden_words 16 x_o_forbidden_words, O_La a_o_law a_o_law_code x_o_law_length a_o_law_stack x_o_law_top, A_I dA a_o_law_code 256 x_o_law_code, A_I dA a_o_law_stack 256 x_o_law_stack, O_Pi a_p1_told a_p1_told_words, A_J dA a_p1_told_words 16 x_p1_told_words]) C (c_Pi_holds (l := l) (D := D) (dA := dA) (a_o := a_p1_told) (a_o_words := a_p1_told_words)   hc14) yy_Pi_holds kf_Pi rfl mw_2_227 d_Ru_isBarred_81 rfl [] rfl rfl (Nat.le_of_ble_eq_true rfl) ⟨Nat.le_of_ble_eq_true rfl, Nat.le_of_ble_eq_true rfl⟩ rfl rfl (Nat.zero_le _) (Nat.zero_le _) 9 rfl [9, 10] rfl (by decide +kernel) rfl (g_lay_sel _ _ _ _ [(0, false), (1, false), (2, false), (3, false), (4, false), (5, false), (6, false), (7, false), (8, false), (0, true), (1, true)] (by decide +kernel) rfl (by decide +kernel) rfl rfl) rfl ?_
  refine g_if_neb (pc' := 87) (tgt := 98) C d_Ru_isBarred_84 rfl rfl (fun h => ?_) (fun h => ?_)
  · replace hf := g_bt h hf
    refine g_iconst (pc' := 99) (v := 1) C d_Ru_isBarred_98 rfl rfl ?_
    refine g_goto (tgt := 103) C d_Ru_isBarred_99 rfl ?_
    replace hf := g_o2 hf; obtain ⟨h1, hf⟩ := hf; subst h1
    replace hf := g_o2 hf; obtain ⟨h1, hf⟩ := hf; subst h1
    replace hf := g_o2 hf; obtain ⟨h1, hf⟩ := hf; subst h1
    replace hf := g_o2 hf; obtain ⟨h1, hf⟩ := hf; subst h1
    replace hf := g_o2 hf; obtain ⟨h1, hf⟩ := hf; subst h1
    replace hf := Option.some.inj hf; subst hf
    exact g_zret C d_Ru_isBarred_103 () rfl
  · replace hf := g_bf h hf
    refine g_aload_n (pc' := 88) C 0 d_Ru_isBarred_87 rfl rfl ?_
    refine g_get (pc' := 91) C kf_Ru 4 mw_1_136 d_Ru_isBarred_88 rfl 1 rfl (by decide) rfl ?_
    refine g_iload_n (pc' := 92) C 2 d_Ru_isBarred_91 rfl rfl ?_
    replace hf := g_bi hf; obtain ⟨r15, hc16, hf⟩ := hf
    refine g_callV (pc' := 95) (st1 := [.int (b2i r15)]) (ws1 := [O_Wa a_p1 x_p1_lamps x_p1_picture x_p1_night x_p1_spent a_p1_had a_p1_told a_p1_last a_p1_often, O_Ru a_o x_o_rest x_o_shy a_o_law a_o_asked a_o_forbidden x_o_askedForLamps, O_Pi a_o_asked a_o_asked_words, A_J dA a_o_asked_words 16 x_o_asked_words, O_Pi a_o_forbidden a_o_forbidden_words, A_J dA a_o_forbidden_words 16 x_o_forbidden_words, O_La a_o_law a_o_law_code x_o_law_length a_o_law_stack x_o_law_top, A_I dA a_o_law_code 256 x_o_law_code, A_I dA a_o_law_stack 256 x_o_law_stack, O_Pi a_p1_told a_p1_told_words, A_J dA a_p1_told_words 16 x_p1_told_words]) C (c_Pi_holds (l := l) (D := D) (dA := dA) (a_o := a_o_forbidden) (a_o_words := a_o_forbidden_words)   hc16) yy_Pi_holds kf_Pi rfl mw_2_227 d_Ru_isBarred_92 rfl [] rfl rfl (Nat.le_of_ble_eq_true rfl) ⟨Nat.le_of_ble_eq_true rfl, Nat.le_of_ble_eq_true rfl⟩ rfl rfl (Nat.zero_le _) (Nat.zero_le _) 4 rfl [4, 5] rfl (by decide +kernel) rfl (g_lay_sel _ _ _ _ [(0, false), (1, false), (2, false), (3, false), (0, true), (1, true), (6, false), (7, false), (8, false), (9, false), (10, false)] (by decide +kernel) rfl (by decide +kernel) rfl rfl) rfl ?_
    refine g_if_eqb (pc' := 98) (tgt := 102) C d_Ru_isBarred_95 rfl rfl (fun h => ?_) (fun h => ?_)
    · replace hf := g_bf h hf
      refine g_iconst (pc' := 103) (v := 0) C d_Ru_isBarred_102 rfl rfl ?_
      replace hf := g_o2 hf; obtain ⟨h1, hf⟩ := hf; subst h1
      replace hf := g_o2 hf; obtain ⟨h1, hf⟩ := hf; subst h1
      replace hf := g_o2 hf; obtain ⟨h1, hf⟩ := hf; subst h1
      replace hf := g_o2 hf; obtain ⟨h1, hf⟩ := hf; subst h1
      replace hf := g_o2 hf; obtain ⟨h1, hf⟩ := hf; subst h1
      replace hf := Option.some.inj hf; subst hf
      exact g_zret C d_Ru_isBarred_103 () rfl
    · replace hf := g_bt h hf
      refine g_iconst (pc' := 99) (v := 1) C d_Ru_isBarred_98 rfl rfl ?_
      refine g_goto (tgt := 103) C d_Ru_isBarred_99 rfl ?_
      replace hf := g_o2 hf; obtain ⟨h1, hf⟩ := hf; subst h1
      replace hf := g_o2 hf; obtain ⟨h1, hf⟩ := hf; subst h1
      replace hf := g_o2 hf; obtain ⟨h1, hf⟩ := hf; subst h1
      replace hf := g_o2 hf; obtain ⟨h1, hf⟩ := hf; subst h1
      replace hf := g_o2 hf; obtain ⟨h1, hf⟩ := hf; subst h1
      replace hf := Option.some.inj hf; subst hf
      exact g_zret C d_Ru_isBarred_103 () rfl
def f_Ru_isBarred_L26   (v2 : Int32) (x_p1_lamps : Int32) (x_o_askedForLamps : Int32) (x_o_asked_words : Nat → Int64) (x_o_forbidden_words : Nat → Int64) (x_o_law_length : Int32) (x_o_law_top : Int32) (x_o_law_code : Nat → Int32) (x_o_law_stack : Nat → Int32) (x_p1_told_words : Nat → Int64) : Option (Bool × Int32 × (Nat → Int64) × (Nat → Int64) × Int32 × (Nat → Int32)) :=
  (f_Pi_holds  v2 x_o_asked_words).bind fun r1 =>
  if r1 = true then
    (f_Ru_isBarred_L76  v2 x_o_askedForLamps x_o_asked_words x_o_forbidden_words x_o_law_top x_o_law_stack x_p1_told_words)
  else
    ((f_Pi_add  v2 x_o_asked_words).bind fun u3 =>
    (f_Pi_remove  v2 x_o_forbidden_words).bind fun u5 =>
    (f_La_valueOf  v2 x_p1_lamps x_o_law_length x_o_law_top x_o_law_code x_o_law_stack).bind fun (r7, u8, u9) =>
    if r7 = 0 then
      (f_Ru_isBarred_L76  v2 x_o_askedForLamps u3 u5 u8 u9 x_p1_told_words)
    else
      ((f_Pi_add  v2 u5).bind fun u11 =>
      f_Ru_isBarred_L76  v2 x_o_askedForLamps u3 u11 u8 u9 x_p1_told_words))
set_option maxRecDepth 20000 in
theorem w_Ru_isBarred_L26 {p : Program} {l : Launch} {e : Env} {s : State} {m : MethodId} {args : Array Value} {below : List Frame} {meth : Method} {c : Code} {D : va_G} {dA : Nat → ClassId} {A : Nat → Prop} (C : GC p s m args meth c prog_6_method_3_code 3 "OneLamp$Rules" (some .boolean) D dA A) {a_o a_p1 a_p1_had a_p1_told a_p1_last a_p1_often a_o_law a_o_asked a_o_forbidden a_o_asked_words a_o_forbidden_words a_o_law_code a_o_law_stack a_p1_told_words : Nat} {x_p1_picture : Int32} {x_p1_night : Int32} {x_p1_spent : Int32} {x_o_rest : Int32} {x_o_shy : Int32} {r0 : Bool} {o_x_o_askedForLamps : Int32} {o_x_o_asked_words : Nat → Int64} {o_x_o_forbidden_words : Nat → Int64} {o_x_o_law_top : Int32} {o_x_o_law_stack : Nat → Int32}    (v2 : Int32) (x_p1_lamps : Int32) (x_o_askedForLamps : Int32) (x_o_asked_words : Nat → Int64) (x_o_forbidden_words : Nat → Int64) (x_o_law_length : Int32) (x_o_law_top : Int32) (x_o_law_code : Nat → Int32) (x_o_law_stack : Nat → Int32) (x_p1_told_words : Nat → Int64) (hf : f_Ru_isBarred_L26   v2 x_p1_lamps x_o_askedForLamps x_o_asked_words x_o_forbidden_words x_o_law_length x_o_law_top x_o_law_code x_o_law_stack x_p1_told_words = some (r0, o_x_o_askedForLamps, o_x_o_asked_words, o_x_o_forbidden_words, o_x_o_law_top, o_x_o_law_stack)) : GG p l e { frames := 3, cells := 0, slots := 0, locals := 70 } s m args below meth c 3 D A 0 0 (MQ below (cQ D A (some (.int (b2i r0))) (fun _ : Unit => [O_Wa a_p1 x_p1_lamps x_p1_picture x_p1_night x_p1_spent a_p1_had a_p1_told a_p1_last a_p1_often, O_Ru a_o x_o_rest x_o_shy a_o_law a_o_asked a_o_forbidden o_x_o_askedForLamps, O_Pi a_o_asked a_o_asked_words, A_J dA a_o_asked_words 16 o_x_o_asked_words, O_Pi a_o_forbidden a_o_forbidden_words, A_J dA a_o_forbidden_words 16 o_x_o_forbidden_words, O_La a_o_law a_o_law_code x_o_law_length a_o_law_stack o_x_o_law_top, A_I dA a_o_law_code 256 x_o_law_code, A_I dA a_o_law_stack 256 o_x_o_law_stack, O_Pi a_p1_told a_p1_told_words, A_J dA a_p1_told_words 16 x_p1_told_words])) args s 0 0 A) 26 [(0, .ref a_o), (1, .ref a_p1), (2, .int v2)] [] [O_Wa a_p1 x_p1_lamps x_p1_picture x_p1_night x_p1_spent a_p1_had a_p1_told a_p1_last a_p1_often, O_Ru a_o x_o_rest x_o_shy a_o_law a_o_asked a_o_forbidden x_o_askedForLamps, O_Pi a_o_asked a_o_asked_words, A_J dA a_o_asked_words 16 x_o_asked_words, O_Pi a_o_forbidden a_o_forbidden_words, A_J dA a_o_forbidden_words 16 x_o_forbidden_words, O_La a_o_law a_o_law_code x_o_law_length a_o_law_stack x_o_law_top, A_I dA a_o_law_code 256 x_o_law_code, A_I dA a_o_law_stack 256 x_o_law_stack, O_Pi a_p1_told a_p1_told_words, A_J dA a_p1_told_words 16 x_p1_told_words] := by
  unfold f_Ru_isBarred_L26 at hf
  refine g_aload_n (pc' := 27) C 0 d_Ru_isBarred_26 rfl rfl ?_
  refine g_get (pc' := 30) C kf_Ru 3 mw_1_135 d_Ru_isBarred_27 rfl 1 rfl (by decide) rfl ?_
  refine g_iload_n (pc' := 31) C 2 d_Ru_isBarred_30 rfl rfl ?_
  replace hf := g_bi hf; obtain ⟨r1, hc2, hf⟩ := hf
  refine g_callV (pc' := 34) (st1 := [.int (b2i r1)]) (ws1 := [O_Wa a_p1 x_p1_lamps x_p1_picture x_p1_night x_p1_spent a_p1_had a_p1_told a_p1_last a_p1_often, O_Ru a_o x_o_rest x_o_shy a_o_law a_o_asked a_o_forbidden x_o_askedForLamps, O_Pi a_o_asked a_o_asked_words, A_J dA a_o_asked_words 16 x_o_asked_words, O_Pi a_o_forbidden a_o_forbidden_words, A_J dA a_o_forbidden_words 16 x_o_forbidden_words, O_La a_o_law a_o_law_code x_o_law_length a_o_law_stack x_o_law_top, A_I dA a_o_law_code 256 x_o_law_code, A_I dA a_o_law_stack 256 x_o_law_stack, O_Pi a_p1_told a_p1_told_words, A_J dA a_p1_told_words 16 x_p1_told_words]) C (c_Pi_holds (l := l) (D := D) (dA := dA) (a_o := a_o_asked) (a_o_words := a_o_asked_words)   hc2) yy_Pi_holds kf_Pi rfl mw_2_227 d_Ru_isBarred_31 rfl [] rfl rfl (Nat.le_of_ble_eq_true rfl) ⟨Nat.le_of_ble_eq_true rfl, Nat.le_of_ble_eq_true rfl⟩ rfl rfl (Nat.zero_le _) (Nat.zero_le _) 2 rfl [2, 3] rfl (by decide +kernel) rfl (g_lay_sel _ _ _ _ [(0, false), (1, false), (0, true), (1, true), (4, false), (5, false), (6, false), (7, false), (8, false), (9, false), (10, false)] (by decide +kernel) rfl (by decide +kernel) rfl rfl) rfl ?_
  refine g_if_neb (pc' := 37) (tgt := 76) C d_Ru_isBarred_34 rfl rfl (fun h => ?_) (fun h => ?_)
  · replace hf := g_bt h hf
    exact w_Ru_isBarred_L76 (a_o := a_o) (a_p1 := a_p1) (a_p1_had := a_p1_had) (a_p1_told := a_p1_told) (a_p1_last := a_p1_last) (a_p1_often := a_p1_often) (a_o_law := a_o_law) (a_o_asked := a_o_asked) (a_o_forbidden := a_o_forbidden) (a_o_asked_words := a_o_asked_words) (a_o_forbidden_words := a_o_forbidden_words) (a_o_law_code := a_o_law_code) (a_o_law_stack := a_o_law_stack) (a_p1_told_words := a_p1_told_words) C   v2 x_o_askedForLamps x_o_asked_words x_o_forbidden_words x_o_law_top x_o_law_stack x_p1_told_words hf
  · replace hf := g_bf h hf
    refine g_aload_n (pc' := 38) C 0 d_Ru_isBarred_37 rfl rfl ?_
    refine g_get (pc' := 41) C kf_Ru 3 mw_1_135 d_Ru_isBarred_38 rfl 1 rfl (by decide) rfl ?_
    refine g_iload_n (pc' := 42) C 2 d_Ru_isBarred_41 rfl rfl ?_
    replace hf := g_bi hf; obtain ⟨u3, hc4, hf⟩ := hf
    refine g_callV (pc' := 45) (st1 := []) (ws1 := [O_Wa a_p1 x_p1_lamps x_p1_picture x_p1_night x_p1_spent a_p1_had a_p1_told a_p1_last a_p1_often, O_Ru a_o x_o_rest x_o_shy a_o_law a_o_asked a_o_forbidden x_o_askedForLamps, O_Pi a_o_asked a_o_asked_words, A_J dA a_o_asked_words 16 u3, O_Pi a_o_forbidden a_o_forbidden_words, A_J dA a_o_forbidden_words 16 x_o_forbidden_words, O_La a_o_law a_o_law_code x_o_law_length a_o_law_stack x_o_law_top, A_I dA a_o_law_code 256 x_o_law_code, A_I dA a_o_law_stack 256 x_o_law_stack, O_Pi a_p1_told a_p1_told_words, A_J dA a_p1_told_words 16 x_p1_told_words]) C (c_Pi_add (l := l) (D := D) (dA := dA) (a_o := a_o_asked) (a_o_words := a_o_asked_words)   hc4) yy_Pi_add kf_Pi rfl mw_2_228 d_Ru_isBarred_42 rfl [] rfl rfl (Nat.le_of_ble_eq_true rfl) ⟨Nat.le_of_ble_eq_true rfl, Nat.le_of_ble_eq_true rfl⟩ rfl rfl (Nat.zero_le _) (Nat.zero_le _) 2 rfl [2, 3] rfl (by decide +kernel) rfl (g_lay_sel _ _ _ _ [(0, false), (1, false), (0, true), (1, true), (4, false), (5, false), (6, false), (7, false), (8, false), (9, false), (10, false)] (by decide +kernel) rfl (by decide +kernel) rfl rfl) rfl ?_
    refine g_aload_n (pc' := 46) C 0 d_Ru_isBarred_45 rfl rfl ?_
    refine g_get (pc' := 49) C kf_Ru 4 mw_1_136 d_Ru_isBarred_46 rfl 1 rfl (by decide) rfl ?_
    refine g_iload_n (pc' := 50) C 2 d_Ru_isBarred_49 rfl rfl ?_
    replace hf := g_bi hf; obtain ⟨u5, hc6, hf⟩ := hf
    refine g_callV (pc' := 53) (st1 := []) (ws1 := [O_Wa a_p1 x_p1_lamps x_p1_picture x_p1_night x_p1_spent a_p1_had a_p1_told a_p1_last a_p1_often, O_Ru a_o x_o_rest x_o_shy a_o_law a_o_asked a_o_forbidden x_o_askedForLamps, O_Pi a_o_asked a_o_asked_words, A_J dA a_o_asked_words 16 u3, O_Pi a_o_forbidden a_o_forbidden_words, A_J dA a_o_forbidden_words 16 u5, O_La a_o_law a_o_law_code x_o_law_length a_o_law_stack x_o_law_top, A_I dA a_o_law_code 256 x_o_law_code, A_I dA a_o_law_stack 256 x_o_law_stack, O_Pi a_p1_told a_p1_told_words, A_J dA a_p1_told_words 16 x_p1_told_words]) C (c_Pi_remove (l := l) (D := D) (dA := dA) (a_o := a_o_forbidden) (a_o_words := a_o_forbidden_words)   hc6) yy_Pi_remove kf_Pi rfl mw_2_229 d_Ru_isBarred_50 rfl [] rfl rfl (Nat.le_of_ble_eq_true rfl) ⟨Nat.le_of_ble_eq_true rfl, Nat.le_of_ble_eq_true rfl⟩ rfl rfl (Nat.zero_le _) (Nat.zero_le _) 4 rfl [4, 5] rfl (by decide +kernel) rfl (g_lay_sel _ _ _ _ [(0, false), (1, false), (2, false), (3, false), (0, true), (1, true), (6, false), (7, false), (8, false), (9, false), (10, false)] (by decide +kernel) rfl (by decide +kernel) rfl rfl) rfl ?_
    refine g_aload_n (pc' := 54) C 0 d_Ru_isBarred_53 rfl rfl ?_
    refine g_get (pc' := 57) C kf_Ru 2 mw_1_134 d_Ru_isBarred_54 rfl 1 rfl (by decide) rfl ?_
    refine g_iload_n (pc' := 58) C 2 d_Ru_isBarred_57 rfl rfl ?_
    refine g_aload_n (pc' := 59) C 1 d_Ru_isBarred_58 rfl rfl ?_
    refine g_get (pc' := 62) C kf_Wa 0 mw_1_65 d_Ru_isBarred_59 rfl 0 rfl (by decide) rfl ?_
    replace hf := g_bi hf; obtain ⟨⟨r7, u8, u9⟩, hc10, hf⟩ := hf
    dsimp only at hf
    refine g_callV (pc' := 65) (st1 := [.int r7]) (ws1 := [O_Wa a_p1 x_p1_lamps x_p1_picture x_p1_night x_p1_spent a_p1_had a_p1_told a_p1_last a_p1_often, O_Ru a_o x_o_rest x_o_shy a_o_law a_o_asked a_o_forbidden x_o_askedForLamps, O_Pi a_o_asked a_o_asked_words, A_J dA a_o_asked_words 16 u3, O_Pi a_o_forbidden a_o_forbidden_words, A_J dA a_o_forbidden_words 16 u5, O_La a_o_law a_o_law_code x_o_law_length a_o_law_stack u8, A_I dA a_o_law_code 256 x_o_law_code, A_I dA a_o_law_stack 256 u9, O_Pi a_p1_told a_p1_told_words, A_J dA a_p1_told_words 16 x_p1_told_words]) C (c_La_valueOf (l := l) (D := D) (dA := dA) (a_o := a_o_law) (a_o_code := a_o_law_code) (a_o_stack := a_o_law_stack)   hc10) yy_La_valueOf kf_La rfl mw_2_234 d_Ru_isBarred_62 rfl [] rfl rfl (Nat.le_of_ble_eq_true rfl) ⟨Nat.le_of_ble_eq_true rfl, Nat.le_of_ble_eq_true rfl⟩ rfl rfl (Nat.zero_le _) (Nat.zero_le _) 6 rfl [6, 7, 8] rfl (by decide +kernel) rfl (g_lay_sel _ _ _ _ [(0, false), (1, false), (2, false), (3, false), (4, false), (5, false), (0, true), (1, true), (2, true), (9, false), (10, false)] (by decide +kernel) rfl (by decide +kernel) rfl rfl) rfl ?_
    refine g_if_eq (pc' := 68) (tgt := 76) C d_Ru_isBarred_65 rfl rfl (fun h => ?_) (fun h => ?_)
    · replace hf := g_ip h hf
      exact w_Ru_isBarred_L76 (a_o := a_o) (a_p1 := a_p1) (a_p1_had := a_p1_had) (a_p1_told := a_p1_told) (a_p1_last := a_p1_last) (a_p1_often := a_p1_often) (a_o_law := a_o_law) (a_o_asked := a_o_asked) (a_o_forbidden := a_o_forbidden) (a_o_asked_words := a_o_asked_words) (a_o_forbidden_words := a_o_forbidden_words) (a_o_law_code := a_o_law_code) (a_o_law_stack := a_o_law_stack) (a_p1_told_words := a_p1_told_words) C   v2 x_o_askedForLamps u3 u5 u8 u9 x_p1_told_words hf
    · replace hf := g_in h hf
      refine g_aload_n (pc' := 69) C 0 d_Ru_isBarred_68 rfl rfl ?_
      refine g_get (pc' := 72) C kf_Ru 4 mw_1_136 d_Ru_isBarred_69 rfl 1 rfl (by decide) rfl ?_
      refine g_iload_n (pc' := 73) C 2 d_Ru_isBarred_72 rfl rfl ?_
      replace hf := g_bi hf; obtain ⟨u11, hc12, hf⟩ := hf
      refine g_callV (pc' := 76) (st1 := []) (ws1 := [O_Wa a_p1 x_p1_lamps x_p1_picture x_p1_night x_p1_spent a_p1_had a_p1_told a_p1_last a_p1_often, O_Ru a_o x_o_rest x_o_shy a_o_law a_o_asked a_o_forbidden x_o_askedForLamps, O_Pi a_o_asked a_o_asked_words, A_J dA a_o_asked_words 16 u3, O_Pi a_o_forbidden a_o_forbidden_words, A_J dA a_o_forbidden_words 16 u11, O_La a_o_law a_o_law_code x_o_law_length a_o_law_stack u8, A_I dA a_o_law_code 256 x_o_law_code, A_I dA a_o_law_stack 256 u9, O_Pi a_p1_told a_p1_told_words, A_J dA a_p1_told_words 16 x_p1_told_words]) C (c_Pi_add (l := l) (D := D) (dA := dA) (a_o := a_o_forbidden) (a_o_words := a_o_forbidden_words)   hc12) yy_Pi_add kf_Pi rfl mw_2_228 d_Ru_isBarred_73 rfl [] rfl rfl (Nat.le_of_ble_eq_true rfl) ⟨Nat.le_of_ble_eq_true rfl, Nat.le_of_ble_eq_true rfl⟩ rfl rfl (Nat.zero_le _) (Nat.zero_le _) 4 rfl [4, 5] rfl (by decide +kernel) rfl (g_lay_sel _ _ _ _ [(0, false), (1, false), (2, false), (3, false), (0, true), (1, true), (6, false), (7, false), (8, false), (9, false), (10, false)] (by decide +kernel) rfl (by decide +kernel) rfl rfl) rfl ?_
      exact w_Ru_isBarred_L76 (a_o := a_o) (a_p1 := a_p1) (a_p1_had := a_p1_had) (a_p1_told := a_p1_told) (a_p1_last := a_p1_last) (a_p1_often := a_p1_often) (a_o_law := a_o_law) (a_o_asked := a_o_asked) (a_o_forbidden := a_o_forbidden) (a_o_asked_words := a_o_asked_words) (a_o_forbidden_words := a_o_forbidden_words) (a_o_law_code := a_o_law_code) (a_o_law_stack := a_o_law_stack) (a_p1_told_words := a_p1_told_words) C   v2 x_o_askedForLamps u3 u11 u8 u9 x_p1_told_words hf
def f_Ru_isBarred  (p2 : Int32) (x_p1_lamps : Int32) (x_o_askedForLamps : Int32) (x_o_asked_words : Nat → Int64) (x_o_forbidden_words : Nat → Int64) (x_o_law_length : Int32) (x_o_law_top : Int32) (x_o_law_code : Nat → Int32) (x_o_law_stack : Nat → Int32) (x_p1_told_words : Nat → Int64) : Option (Bool × Int32 × (Nat → Int64) × (Nat → Int64) × Int32 × (Nat → Int32)) :=
  if x_p1_lamps = x_o_askedForLamps then
    (f_Ru_isBarred_L26  p2 x_p1_lamps x_o_askedForLamps x_o_asked_words x_o_forbidden_words x_o_law_length x_o_law_top x_o_law_code x_o_law_stack x_p1_told_words)
  else
    ((f_Pi_empty  x_o_asked_words).bind fun u17 =>
    f_Ru_isBarred_L26  p2 x_p1_lamps x_p1_lamps u17 x_o_forbidden_words x_o_law_length x_o_law_top x_o_law_code x_o_law_stack x_p1_told_words)
set_option maxRecDepth 20000 in
theorem c_Ru_isBarred {l : Launch} {D : va_G} {dA : Nat → ClassId} {a_o a_p1 a_p1_had a_p1_told a_p1_last a_p1_often a_o_law a_o_asked a_o_forbidden a_o_asked_words a_o_forbidden_words a_o_law_code a_o_law_stack a_p1_told_words : Nat} {x_p1_picture : Int32} {x_p1_night : Int32} {x_p1_spent : Int32} {x_o_rest : Int32} {x_o_shy : Int32} {p2 : Int32} {x_p1_lamps : Int32} {x_o_askedForLamps : Int32} {x_o_asked_words : Nat → Int64} {x_o_forbidden_words : Nat → Int64} {x_o_law_length : Int32} {x_o_law_top : Int32} {x_o_law_code : Nat → Int32} {x_o_law_stack : Nat → Int32} {x_p1_told_words : Nat → Int64} {r0 : Bool} {o_x_o_askedForLamps : Int32} {o_x_o_asked_words : Nat → Int64} {o_x_o_forbidden_words : Nat → Int64} {o_x_o_law_top : Int32} {o_x_o_law_stack : Nat → Int32}   (hf : f_Ru_isBarred  p2 x_p1_lamps x_o_askedForLamps x_o_asked_words x_o_forbidden_words x_o_law_length x_o_law_top x_o_law_code x_o_law_stack x_p1_told_words = some (r0, o_x_o_askedForLamps, o_x_o_asked_words, o_x_o_forbidden_words, o_x_o_law_top, o_x_o_law_stack)) : CT l y_Ru_isBarred prog_6_method_3_code 3 (some .boolean) { frames := 3, cells := 0, slots := 0, locals := 70 } D dA [.ref a_o, .ref a_p1, .int p2] [O_Wa a_p1 x_p1_lamps x_p1_picture x_p1_night x_p1_spent a_p1_had a_p1_told a_p1_last a_p1_often, O_Ru a_o x_o_rest x_o_shy a_o_law a_o_asked a_o_forbidden x_o_askedForLamps, O_Pi a_o_asked a_o_asked_words, A_J dA a_o_asked_words 16 x_o_asked_words, O_Pi a_o_forbidden a_o_forbidden_words, A_J dA a_o_forbidden_words 16 x_o_forbidden_words, O_La a_o_law a_o_law_code x_o_law_length a_o_law_stack x_o_law_top, A_I dA a_o_law_code 256 x_o_law_code, A_I dA a_o_law_stack 256 x_o_law_stack, O_Pi a_p1_told a_p1_told_words, A_J dA a_p1_told_words 16 x_p1_told_words] (some (.int (b2i r0))) (fun _ : Unit => [O_Wa a_p1 x_p1_lamps x_p1_picture x_p1_night x_p1_spent a_p1_had a_p1_told a_p1_last a_p1_often, O_Ru a_o x_o_rest x_o_shy a_o_law a_o_asked a_o_forbidden o_x_o_askedForLamps, O_Pi a_o_asked a_o_asked_words, A_J dA a_o_asked_words 16 o_x_o_asked_words, O_Pi a_o_forbidden a_o_forbidden_words, A_J dA a_o_forbidden_words 16 o_x_o_forbidden_words, O_La a_o_law a_o_law_code x_o_law_length a_o_law_stack o_x_o_law_top, A_I dA a_o_law_code 256 x_o_law_code, A_I dA a_o_law_stack 256 o_x_o_law_stack, O_Pi a_p1_told a_p1_told_words, A_J dA a_p1_told_words 16 x_p1_told_words]) := by
  refine ct_intro "OneLamp$Rules" rfl (by decide +kernel) (Nat.le_of_ble_eq_true rfl) [(0, .ref a_o), (1, .ref a_p1), (2, .int p2)] rfl (fun _ C => ?_)
  unfold f_Ru_isBarred at hf
  refine g_aload_n (pc' := 1) C 1 d_Ru_isBarred_0 rfl rfl ?_
  refine g_get (pc' := 4) C kf_Wa 0 mw_1_65 d_Ru_isBarred_1 rfl 0 rfl (by decide) rfl ?_
  refine g_aload_n (pc' := 5) C 0 d_Ru_isBarred_4 rfl rfl ?_
  refine g_get (pc' := 8) C kf_Ru 5 mw_1_137 d_Ru_isBarred_5 rfl 1 rfl (by decide) rfl ?_
  refine g_icmp_eq (pc' := 11) (tgt := 26) C d_Ru_isBarred_8 rfl rfl (fun h => ?_) (fun h => ?_)
  · replace hf := g_ip h hf
    exact w_Ru_isBarred_L26 (a_o := a_o) (a_p1 := a_p1) (a_p1_had := a_p1_had) (a_p1_told := a_p1_told) (a_p1_last := a_p1_last) (a_p1_often := a_p1_often) (a_o_law := a_o_law) (a_o_asked := a_o_asked) (a_o_forbidden := a_o_forbidden) (a_o_asked_words := a_o_asked_words) (a_o_forbidden_words := a_o_forbidden_words) (a_o_law_code := a_o_law_code) (a_o_law_stack := a_o_law_stack) (a_p1_told_words := a_p1_told_words) C   p2 x_p1_lamps x_o_askedForLamps x_o_asked_words x_o_forbidden_words x_o_law_length x_o_law_top x_o_law_code x_o_law_stack x_p1_told_words hf
  · replace hf := g_in h hf
    refine g_aload_n (pc' := 12) C 0 d_Ru_isBarred_11 rfl rfl ?_
    refine g_get (pc' := 15) C kf_Ru 3 mw_1_135 d_Ru_isBarred_12 rfl 1 rfl (by decide) rfl ?_
    replace hf := g_bi hf; obtain ⟨u17, hc18, hf⟩ := hf
    refine g_callV (pc' := 18) (st1 := []) (ws1 := [O_Wa a_p1 x_p1_lamps x_p1_picture x_p1_night x_p1_spent a_p1_had a_p1_told a_p1_last a_p1_often, O_Ru a_o x_o_rest x_o_shy a_o_law a_o_asked a_o_forbidden x_o_askedForLamps, O_Pi a_o_asked a_o_asked_words, A_J dA a_o_asked_words 16 u17, O_Pi a_o_forbidden a_o_forbidden_words, A_J dA a_o_forbidden_words 16 x_o_forbidden_words, O_La a_o_law a_o_law_code x_o_law_length a_o_law_stack x_o_law_top, A_I dA a_o_law_code 256 x_o_law_code, A_I dA a_o_law_stack 256 x_o_law_stack, O_Pi a_p1_told a_p1_told_words, A_J dA a_p1_told_words 16 x_p1_told_words]) C (c_Pi_empty (l := l) (D := D) (dA := dA) (a_o := a_o_asked) (a_o_words := a_o_asked_words)   hc18) yy_Pi_empty kf_Pi rfl mw_2_174 d_Ru_isBarred_15 rfl [] rfl rfl (Nat.le_of_ble_eq_true rfl) ⟨Nat.le_of_ble_eq_true rfl, Nat.le_of_ble_eq_true rfl⟩ rfl rfl (Nat.zero_le _) (Nat.zero_le _) 2 rfl [2, 3] rfl (by decide +kernel) rfl (g_lay_sel _ _ _ _ [(0, false), (1, false), (0, true), (1, true), (4, false), (5, false), (6, false), (7, false), (8, false), (9, false), (10, false)] (by decide +kernel) rfl (by decide +kernel) rfl rfl) rfl ?_
    refine g_aload_n (pc' := 19) C 0 d_Ru_isBarred_18 rfl rfl ?_
    refine g_aload_n (pc' := 20) C 1 d_Ru_isBarred_19 rfl rfl ?_
    refine g_get (pc' := 23) C kf_Wa 0 mw_1_65 d_Ru_isBarred_20 rfl 0 rfl (by decide) rfl ?_
    refine g_put (pc' := 26) (ws' := [O_Wa a_p1 x_p1_lamps x_p1_picture x_p1_night x_p1_spent a_p1_had a_p1_told a_p1_last a_p1_often, O_Ru a_o x_o_rest x_o_shy a_o_law a_o_asked a_o_forbidden x_p1_lamps, O_Pi a_o_asked a_o_asked_words, A_J dA a_o_asked_words 16 u17, O_Pi a_o_forbidden a_o_forbidden_words, A_J dA a_o_forbidden_words 16 x_o_forbidden_words, O_La a_o_law a_o_law_code x_o_law_length a_o_law_stack x_o_law_top, A_I dA a_o_law_code 256 x_o_law_code, A_I dA a_o_law_stack 256 x_o_law_stack, O_Pi a_p1_told a_p1_told_words, A_J dA a_p1_told_words 16 x_p1_told_words]) C kf_Ru 5 mw_1_137 d_Ru_isBarred_23 rfl 1 rfl (by decide) rfl rfl rfl (Nat.le_of_ble_eq_true rfl) rfl ?_
    exact w_Ru_isBarred_L26 (a_o := a_o) (a_p1 := a_p1) (a_p1_had := a_p1_had) (a_p1_told := a_p1_told) (a_p1_last := a_p1_last) (a_p1_often := a_p1_often) (a_o_law := a_o_law) (a_o_asked := a_o_asked) (a_o_forbidden := a_o_forbidden) (a_o_asked_words := a_o_asked_words) (a_o_forbidden_words := a_o_forbidden_words) (a_o_law_code := a_o_law_code) (a_o_law_stack := a_o_law_stack) (a_p1_told_words := a_p1_told_words) C   p2 x_p1_lamps x_p1_lamps u17 x_o_forbidden_words x_o_law_length x_o_law_top x_o_law_code x_o_law_stack x_p1_told_words hf
def y_Ru_isResting : MethodName := ⟨"OneLamp$Rules", "isResting", "(LOneLamp$Wall;I)Z"⟩
theorem yy_Ru_isResting : YV y_Ru_isResting prog_6_method_5_code 4 (some .boolean) 2 := ⟨mw_3_57, mw_1_5, mw_3_56, tm_s (y := y_Ru_isResting) (n := 6) (by decide +kernel), by decide +kernel, by decide +kernel, by decide +kernel⟩
theorem d_Ru_isResting_0 : decode prog_6_method_5_code 0 = .ok (.aload_n 1, 1) := by decide +kernel
theorem d_Ru_isResting_1 : decode prog_6_method_5_code 1 = .ok (.iload_n 2, 1) := by decide +kernel
theorem d_Ru_isResting_2 : decode prog_6_method_5_code 2 = .ok (.invokevirtual 84, 3) := by decide +kernel
theorem d_Ru_isResting_5 : decode prog_6_method_5_code 5 = .ok (.istore_n 3, 1) := by decide +kernel
theorem d_Ru_isResting_6 : decode prog_6_method_5_code 6 = .ok (.iload_n 3, 1) := by decide +kernel
theorem d_Ru_isResting_7 : decode prog_6_method_5_code 7 = .ok (.bipush (-2), 2) := by decide +kernel
theorem d_Ru_isResting_9 : decode prog_6_method_5_code 9 = .ok (.if_icmp .eq 22, 3) := by decide +kernel
theorem d_Ru_isResting_12 : decode prog_6_method_5_code 12 = .ok (.aload_n 1, 1) := by decide +kernel
theorem d_Ru_isResting_13 : decode prog_6_method_5_code 13 = .ok (.getfield 88, 3) := by decide +kernel
theorem d_Ru_isResting_16 : decode prog_6_method_5_code 16 = .ok (.iconst 1, 1) := by decide +kernel
theorem d_Ru_isResting_17 : decode prog_6_method_5_code 17 = .ok (.iadd, 1) := by decide +kernel
theorem d_Ru_isResting_18 : decode prog_6_method_5_code 18 = .ok (.iload_n 3, 1) := by decide +kernel
theorem d_Ru_isResting_19 : decode prog_6_method_5_code 19 = .ok (.isub, 1) := by decide +kernel
theorem d_Ru_isResting_20 : decode prog_6_method_5_code 20 = .ok (.aload_n 0, 1) := by decide +kernel
theorem d_Ru_isResting_21 : decode prog_6_method_5_code 21 = .ok (.getfield 91, 3) := by decide +kernel
theorem d_Ru_isResting_24 : decode prog_6_method_5_code 24 = .ok (.if_icmp .gt 7, 3) := by decide +kernel
theorem d_Ru_isResting_27 : decode prog_6_method_5_code 27 = .ok (.iconst 1, 1) := by decide +kernel
theorem d_Ru_isResting_28 : decode prog_6_method_5_code 28 = .ok (.goto 4, 3) := by decide +kernel
theorem d_Ru_isResting_31 : decode prog_6_method_5_code 31 = .ok (.iconst 0, 1) := by decide +kernel
theorem d_Ru_isResting_32 : decode prog_6_method_5_code 32 = .ok (.ireturn, 1) := by decide +kernel
def f_Ru_isResting  (p2 : Int32) (x_p1_lamps : Int32) (x_p1_night : Int32) (x_p1_last : Nat → Int32) (x_o_rest : Int32) : Option (Bool) :=
  (f_Wa_lastOf  p2 x_p1_lamps x_p1_last).bind fun r1 =>
  if r1 = (-2 : Int32) then
    (some (false))
  else
    (if x_o_rest < ((x_p1_night + (1 : Int32)) - r1) then
      (some (false))
    else
      (some (true)))
set_option maxRecDepth 20000 in
theorem c_Ru_isResting {l : Launch} {D : va_G} {dA : Nat → ClassId} {a_o a_p1 a_p1_had a_p1_told a_p1_last a_p1_often a_o_law a_o_asked a_o_forbidden : Nat} {x_p1_picture : Int32} {x_p1_spent : Int32} {x_o_shy : Int32} {x_o_askedForLamps : Int32} {p2 : Int32} {x_p1_lamps : Int32} {x_p1_night : Int32} {x_p1_last : Nat → Int32} {x_o_rest : Int32} {r0 : Bool}   (hf : f_Ru_isResting  p2 x_p1_lamps x_p1_night x_p1_last x_o_rest = some r0) : CT l y_Ru_isResting prog_6_method_5_code 4 (some .boolean) { frames := 2, cells := 0, slots := 0, locals := 42 } D dA [.ref a_o, .ref a_p1, .int p2] [O_Wa a_p1 x_p1_lamps x_p1_picture x_p1_night x_p1_spent a_p1_had a_p1_told a_p1_last a_p1_often, A_I dA a_p1_last 10 x_p1_last, O_Ru a_o x_o_rest x_o_shy a_o_law a_o_asked a_o_forbidden x_o_askedForLamps] (some (.int (b2i r0))) (fun _ : Unit => [O_Wa a_p1 x_p1_lamps x_p1_picture x_p1_night x_p1_spent a_p1_had a_p1_told a_p1_last a_p1_often, A_I dA a_p1_last 10 x_p1_last, O_Ru a_o x_o_rest x_o_shy a_o_law a_o_asked a_o_forbidden x_o_askedForLamps]) := by
  refine ct_intro "OneLamp$Rules" rfl (by decide +kernel) (Nat.le_of_ble_eq_true rfl) [(0, .ref a_o), (1, .ref a_p1), (2, .int p2)] rfl (fun _ C => ?_)
  unfold f_Ru_isResting at hf
  refine g_aload_n (pc' := 1) C 1 d_Ru_isResting_0 rfl rfl ?_
  refine g_iload_n (pc' := 2) C 2 d_Ru_isResting_1 rfl rfl ?_
  replace hf := g_bi hf; obtain ⟨r1, hc2, hf⟩ := hf
  refine g_callV (pc' := 5) (st1 := [.int r1]) (ws1 := [O_Wa a_p1 x_p1_lamps x_p1_picture x_p1_night x_p1_spent a_p1_had a_p1_told a_p1_last a_p1_often, A_I dA a_p1_last 10 x_p1_last, O_Ru a_o x_o_rest x_o_shy a_o_law a_o_asked a_o_forbidden x_o_askedForLamps]) C (c_Wa_lastOf (l := l) (D := D) (dA := dA) (a_o := a_p1) (a_o_had := a_p1_had) (a_o_told := a_p1_told) (a_o_last := a_p1_last) (a_o_often := a_p1_often) (x_o_picture := x_p1_picture) (x_o_night := x_p1_night) (x_o_spent := x_p1_spent)   hc2) yy_Wa_lastOf kf_Wa rfl mw_3_58 d_Ru_isResting_2 rfl [] rfl rfl (Nat.le_of_ble_eq_true rfl) ⟨Nat.le_of_ble_eq_true rfl, Nat.le_of_ble_eq_true rfl⟩ rfl rfl (Nat.zero_le _) (Nat.zero_le _) 0 rfl [0, 1] rfl (by decide +kernel) rfl (g_lay_sel _ _ _ _ [(0, true), (1, true), (2, false)] (by decide +kernel) rfl (by decide +kernel) rfl rfl) rfl ?_
  refine g_istore_n (pc' := 6) (lv' := [(3, .int r1), (0, .ref a_o), (1, .ref a_p1), (2, .int p2)]) C d_Ru_isResting_5 rfl (by decide) rfl ?_
  refine g_iload_n (pc' := 7) C 0 d_Ru_isResting_6 rfl rfl ?_
  refine g_bipush (pc' := 9) (v := (-2)) C d_Ru_isResting_7 rfl rfl ?_
  refine g_icmp_eq (pc' := 12) (tgt := 31) C d_Ru_isResting_9 rfl rfl (fun h => ?_) (fun h => ?_)
  · replace hf := g_ip h hf
    refine g_iconst (pc' := 32) (v := 0) C d_Ru_isResting_31 rfl rfl ?_
    replace hf := Option.some.inj hf; subst hf
    exact g_zret C d_Ru_isResting_32 () rfl
  · replace hf := g_in h hf
    refine g_aload_n (pc' := 13) C 2 d_Ru_isResting_12 rfl rfl ?_
    refine g_get (pc' := 16) C kf_Wa 2 mw_1_72 d_Ru_isResting_13 rfl 0 rfl (by decide) rfl ?_
    refine g_iconst (pc' := 17) (v := 1) C d_Ru_isResting_16 rfl rfl ?_
    refine g_iadd (pc' := 18) C d_Ru_isResting_17 rfl ?_
    refine g_iload_n (pc' := 19) C 0 d_Ru_isResting_18 rfl rfl ?_
    refine g_isub (pc' := 20) C d_Ru_isResting_19 rfl ?_
    refine g_aload_n (pc' := 21) C 1 d_Ru_isResting_20 rfl rfl ?_
    refine g_get (pc' := 24) C kf_Ru 0 mw_1_130 d_Ru_isResting_21 rfl 2 rfl (by decide) rfl ?_
    refine g_icmp_gt (pc' := 27) (tgt := 31) C d_Ru_isResting_24 rfl rfl (fun h => ?_) (fun h => ?_)
    · replace hf := g_ip h hf
      refine g_iconst (pc' := 32) (v := 0) C d_Ru_isResting_31 rfl rfl ?_
      replace hf := Option.some.inj hf; subst hf
      exact g_zret C d_Ru_isResting_32 () rfl
    · replace hf := g_in h hf
      refine g_iconst (pc' := 28) (v := 1) C d_Ru_isResting_27 rfl rfl ?_
      refine g_goto (tgt := 32) C d_Ru_isResting_28 rfl ?_
      replace hf := Option.some.inj hf; subst hf
      exact g_zret C d_Ru_isResting_32 () rfl
def y_Ru_isBesideOneHad : MethodName := ⟨"OneLamp$Rules", "isBesideOneHad", "(LOneLamp$Wall;I)Z"⟩
theorem yy_Ru_isBesideOneHad : YS y_Ru_isBesideOneHad prog_6_method_6_code 4 (some .boolean) 2 := ⟨mw_3_62, mw_1_5, mw_3_61, by decide +kernel, by decide +kernel, by decide +kernel⟩
theorem d_Ru_isBesideOneHad_0 : decode prog_6_method_6_code 0 = .ok (.iconst 0, 1) := by decide +kernel
theorem d_Ru_isBesideOneHad_1 : decode prog_6_method_6_code 1 = .ok (.istore_n 2, 1) := by decide +kernel
theorem d_Ru_isBesideOneHad_2 : decode prog_6_method_6_code 2 = .ok (.iload_n 2, 1) := by decide +kernel
theorem d_Ru_isBesideOneHad_3 : decode prog_6_method_6_code 3 = .ok (.aload_n 0, 1) := by decide +kernel
theorem d_Ru_isBesideOneHad_4 : decode prog_6_method_6_code 4 = .ok (.getfield 35, 3) := by decide +kernel
theorem d_Ru_isBesideOneHad_7 : decode prog_6_method_6_code 7 = .ok (.if_icmp .ge 36, 3) := by decide +kernel
theorem d_Ru_isBesideOneHad_10 : decode prog_6_method_6_code 10 = .ok (.iload_n 1, 1) := by decide +kernel
theorem d_Ru_isBesideOneHad_11 : decode prog_6_method_6_code 11 = .ok (.iconst 1, 1) := by decide +kernel
theorem d_Ru_isBesideOneHad_12 : decode prog_6_method_6_code 12 = .ok (.iload_n 2, 1) := by decide +kernel
theorem d_Ru_isBesideOneHad_13 : decode prog_6_method_6_code 13 = .ok (.ishl, 1) := by decide +kernel
theorem d_Ru_isBesideOneHad_14 : decode prog_6_method_6_code 14 = .ok (.ixor, 1) := by decide +kernel
theorem d_Ru_isBesideOneHad_15 : decode prog_6_method_6_code 15 = .ok (.istore_n 3, 1) := by decide +kernel
theorem d_Ru_isBesideOneHad_16 : decode prog_6_method_6_code 16 = .ok (.iload_n 3, 1) := by decide +kernel
theorem d_Ru_isBesideOneHad_17 : decode prog_6_method_6_code 17 = .ok (.aload_n 0, 1) := by decide +kernel
theorem d_Ru_isBesideOneHad_18 : decode prog_6_method_6_code 18 = .ok (.getfield 69, 3) := by decide +kernel
theorem d_Ru_isBesideOneHad_21 : decode prog_6_method_6_code 21 = .ok (.if_icmp .eq 16, 3) := by decide +kernel
theorem d_Ru_isBesideOneHad_24 : decode prog_6_method_6_code 24 = .ok (.aload_n 0, 1) := by decide +kernel
theorem d_Ru_isBesideOneHad_25 : decode prog_6_method_6_code 25 = .ok (.getfield 72, 3) := by decide +kernel
theorem d_Ru_isBesideOneHad_28 : decode prog_6_method_6_code 28 = .ok (.iload_n 3, 1) := by decide +kernel
theorem d_Ru_isBesideOneHad_29 : decode prog_6_method_6_code 29 = .ok (.invokevirtual 44, 3) := by decide +kernel
theorem d_Ru_isBesideOneHad_32 : decode prog_6_method_6_code 32 = .ok (.ifCond .eq 5, 3) := by decide +kernel
theorem d_Ru_isBesideOneHad_35 : decode prog_6_method_6_code 35 = .ok (.iconst 1, 1) := by decide +kernel
theorem d_Ru_isBesideOneHad_36 : decode prog_6_method_6_code 36 = .ok (.ireturn, 1) := by decide +kernel
theorem d_Ru_isBesideOneHad_37 : decode prog_6_method_6_code 37 = .ok (.iinc 2 1, 3) := by decide +kernel
theorem d_Ru_isBesideOneHad_40 : decode prog_6_method_6_code 40 = .ok (.goto (-38), 3) := by decide +kernel
theorem d_Ru_isBesideOneHad_43 : decode prog_6_method_6_code 43 = .ok (.iconst 0, 1) := by decide +kernel
theorem d_Ru_isBesideOneHad_44 : decode prog_6_method_6_code 44 = .ok (.ireturn, 1) := by decide +kernel
def f_Ru_isBesideOneHad_L37  (k2 : Int32 → Int32 → Int32 → Int32 → (Nat → Int64) → Option (Bool)) (v1 : Int32) (v2 : Int32) (x_p0_lamps : Int32) (x_p0_picture : Int32) (x_p0_had_words : Nat → Int64) : Option (Bool) :=
  k2 v1 (v2 + 1) x_p0_lamps x_p0_picture x_p0_had_words
set_option maxRecDepth 20000 in
theorem w_Ru_isBesideOneHad_L37 {p : Program} {l : Launch} {e : Env} {s : State} {m : MethodId} {args : Array Value} {below : List Frame} {meth : Method} {c : Code} {D : va_G} {dA : Nat → ClassId} {A : Nat → Prop} (C : GC p s m args meth c prog_6_method_6_code 4 "OneLamp$Rules" (some .boolean) D dA A) {a_p0 a_p0_had a_p0_told a_p0_last a_p0_often a_p0_had_words : Nat} {x_p0_night : Int32} {x_p0_spent : Int32} {r0 : Bool}   (k2 : Int32 → Int32 → Int32 → Int32 → (Nat → Int64) → Option (Bool)) (hk2 : ∀ (v1 : Int32) (v2 : Int32) (x_p0_lamps : Int32) (x_p0_picture : Int32) (x_p0_had_words : Nat → Int64), k2 v1 v2 x_p0_lamps x_p0_picture x_p0_had_words = some r0 → GG p l e { frames := 2, cells := 0, slots := 0, locals := 41 } s m args below meth c 4 D A 0 0 (MQ below (cQ D A (some (.int (b2i r0))) (fun _ : Unit => [O_Wa a_p0 x_p0_lamps x_p0_picture x_p0_night x_p0_spent a_p0_had a_p0_told a_p0_last a_p0_often, O_Pi a_p0_had a_p0_had_words, A_J dA a_p0_had_words 16 x_p0_had_words])) args s 0 0 A) 2 [(0, .ref a_p0), (1, .int v1), (2, .int v2)] [] [O_Wa a_p0 x_p0_lamps x_p0_picture x_p0_night x_p0_spent a_p0_had a_p0_told a_p0_last a_p0_often, O_Pi a_p0_had a_p0_had_words, A_J dA a_p0_had_words 16 x_p0_had_words]) (v1 : Int32) (v2 : Int32) (x_p0_lamps : Int32) (x_p0_picture : Int32) (x_p0_had_words : Nat → Int64) (hf : f_Ru_isBesideOneHad_L37  k2 v1 v2 x_p0_lamps x_p0_picture x_p0_had_words = some r0) : GG p l e { frames := 2, cells := 0, slots := 0, locals := 41 } s m args below meth c 4 D A 0 0 (MQ below (cQ D A (some (.int (b2i r0))) (fun _ : Unit => [O_Wa a_p0 x_p0_lamps x_p0_picture x_p0_night x_p0_spent a_p0_had a_p0_told a_p0_last a_p0_often, O_Pi a_p0_had a_p0_had_words, A_J dA a_p0_had_words 16 x_p0_had_words])) args s 0 0 A) 37 [(0, .ref a_p0), (1, .int v1), (2, .int v2)] [] [O_Wa a_p0 x_p0_lamps x_p0_picture x_p0_night x_p0_spent a_p0_had a_p0_told a_p0_last a_p0_often, O_Pi a_p0_had a_p0_had_words, A_J dA a_p0_had_words 16 x_p0_had_words] := by
  unfold f_Ru_isBesideOneHad_L37 at hf
  refine g_iinc (pc' := 40) (j := 2) (v := (v2 + 1)) (lv' := [(2, .int (v2 + 1)), (0, .ref a_p0), (1, .int v1)]) C d_Ru_isBesideOneHad_37 rfl rfl rfl (by decide) rfl ?_
  refine g_goto (tgt := 2) C d_Ru_isBesideOneHad_40 rfl ?_
  refine g_lv (lv' := [(0, .ref a_p0), (1, .int v1), (2, .int (v2 + 1))]) [1, 2, 0] rfl ?_
  exact hk2 v1 (v2 + 1) x_p0_lamps x_p0_picture x_p0_had_words hf
def f_Ru_isBesideOneHad_L2   : Nat → Int32 → Int32 → Int32 → Int32 → (Nat → Int64) → Option (Bool)
  | 0, _, _, _, _, _ => none
  | n + 1, v1, v2, x_p0_lamps, x_p0_picture, x_p0_had_words =>
    if x_p0_lamps ≤ v2 then
      (some (false))
    else
      (if (v1 ^^^ ((1 : Int32) <<< (v2 &&& 31))) = x_p0_picture then
        (f_Ru_isBesideOneHad_L37 (f_Ru_isBesideOneHad_L2  n) v1 v2 x_p0_lamps x_p0_picture x_p0_had_words)
      else
        ((f_Pi_holds  (v1 ^^^ ((1 : Int32) <<< (v2 &&& 31))) x_p0_had_words).bind fun r1 =>
        if r1 = true then
          (some (true))
        else
          (f_Ru_isBesideOneHad_L37 (f_Ru_isBesideOneHad_L2  n) v1 v2 x_p0_lamps x_p0_picture x_p0_had_words)))
set_option maxRecDepth 20000 in
theorem w_Ru_isBesideOneHad_L2 {p : Program} {l : Launch} {e : Env} {s : State} {m : MethodId} {args : Array Value} {below : List Frame} {meth : Method} {c : Code} {D : va_G} {dA : Nat → ClassId} {A : Nat → Prop} (C : GC p s m args meth c prog_6_method_6_code 4 "OneLamp$Rules" (some .boolean) D dA A) {a_p0 a_p0_had a_p0_told a_p0_last a_p0_often a_p0_had_words : Nat} {x_p0_night : Int32} {x_p0_spent : Int32} {r0 : Bool}    : ∀ (n : Nat) (v1 : Int32) (v2 : Int32) (x_p0_lamps : Int32) (x_p0_picture : Int32) (x_p0_had_words : Nat → Int64), f_Ru_isBesideOneHad_L2   n v1 v2 x_p0_lamps x_p0_picture x_p0_had_words = some r0 → GG p l e { frames := 2, cells := 0, slots := 0, locals := 41 } s m args below meth c 4 D A 0 0 (MQ below (cQ D A (some (.int (b2i r0))) (fun _ : Unit => [O_Wa a_p0 x_p0_lamps x_p0_picture x_p0_night x_p0_spent a_p0_had a_p0_told a_p0_last a_p0_often, O_Pi a_p0_had a_p0_had_words, A_J dA a_p0_had_words 16 x_p0_had_words])) args s 0 0 A) 2 [(0, .ref a_p0), (1, .int v1), (2, .int v2)] [] [O_Wa a_p0 x_p0_lamps x_p0_picture x_p0_night x_p0_spent a_p0_had a_p0_told a_p0_last a_p0_often, O_Pi a_p0_had a_p0_had_words, A_J dA a_p0_had_words 16 x_p0_had_words] := by
  intro n
  induction n with
  | zero =>
    intro v1 v2 x_p0_lamps x_p0_picture x_p0_had_words hf
    cases hf
  | succ n ih =>
    intro v1 v2 x_p0_lamps x_p0_picture x_p0_had_words hf
    unfold f_Ru_isBesideOneHad_L2 at hf
    refine g_iload_n (pc' := 3) C 2 d_Ru_isBesideOneHad_2 rfl rfl ?_
    refine g_aload_n (pc' := 4) C 0 d_Ru_isBesideOneHad_3 rfl rfl ?_
    refine g_get (pc' := 7) C kf_Wa 0 mw_1_65 d_Ru_isBesideOneHad_4 rfl 0 rfl (by decide) rfl ?_
    refine g_icmp_ge (pc' := 10) (tgt := 43) C d_Ru_isBesideOneHad_7 rfl rfl (fun h => ?_) (fun h => ?_)
    · replace hf := g_ip h hf
      refine g_iconst (pc' := 44) (v := 0) C d_Ru_isBesideOneHad_43 rfl rfl ?_
      replace hf := Option.some.inj hf; subst hf
      exact g_zret C d_Ru_isBesideOneHad_44 () rfl
    · replace hf := g_in h hf
      refine g_iload_n (pc' := 11) C 1 d_Ru_isBesideOneHad_10 rfl rfl ?_
      refine g_iconst (pc' := 12) (v := 1) C d_Ru_isBesideOneHad_11 rfl rfl ?_
      refine g_iload_n (pc' := 13) C 2 d_Ru_isBesideOneHad_12 rfl rfl ?_
      refine g_ishl (pc' := 14) C d_Ru_isBesideOneHad_13 rfl ?_
      refine g_ixor (pc' := 15) C d_Ru_isBesideOneHad_14 rfl ?_
      refine g_istore_n (pc' := 16) (lv' := [(3, .int (v1 ^^^ ((1 : Int32) <<< (v2 &&& 31)))), (0, .ref a_p0), (1, .int v1), (2, .int v2)]) C d_Ru_isBesideOneHad_15 rfl (by decide) rfl ?_
      refine g_iload_n (pc' := 17) C 0 d_Ru_isBesideOneHad_16 rfl rfl ?_
      refine g_aload_n (pc' := 18) C 1 d_Ru_isBesideOneHad_17 rfl rfl ?_
      refine g_get (pc' := 21) C kf_Wa 1 mw_1_68 d_Ru_isBesideOneHad_18 rfl 0 rfl (by decide) rfl ?_
      refine g_icmp_eq (pc' := 24) (tgt := 37) C d_Ru_isBesideOneHad_21 rfl rfl (fun h => ?_) (fun h => ?_)
      · replace hf := g_ip h hf
        refine g_lv (lv' := [(0, .ref a_p0), (1, .int v1), (2, .int v2)]) [1, 2, 3] rfl ?_
        exact w_Ru_isBesideOneHad_L37 (a_p0 := a_p0) (a_p0_had := a_p0_had) (a_p0_told := a_p0_told) (a_p0_last := a_p0_last) (a_p0_often := a_p0_often) (a_p0_had_words := a_p0_had_words) C  (f_Ru_isBesideOneHad_L2  n) ih v1 v2 x_p0_lamps x_p0_picture x_p0_had_words hf
      · replace hf := g_in h hf
        refine g_aload_n (pc' := 25) C 1 d_Ru_isBesideOneHad_24 rfl rfl ?_
        refine g_get (pc' := 28) C kf_Wa 4 mw_1_77 d_Ru_isBesideOneHad_25 rfl 0 rfl (by decide) rfl ?_
        refine g_iload_n (pc' := 29) C 0 d_Ru_isBesideOneHad_28 rfl rfl ?_
        replace hf := g_bi hf; obtain ⟨r1, hc2, hf⟩ := hf
        refine g_callV (pc' := 32) (st1 := [.int (b2i r1)]) (ws1 := [O_Wa a_p0 x_p0_lamps x_p0_picture x_p0_night x_p0_spent a_p0_had a_p0_told a_p0_last a_p0_often, O_Pi a_p0_had a_p0_had_words, A_J dA a_p0_had_words 16 x_p0_had_words]) C (c_Pi_holds (l := l) (D := D) (dA := dA) (a_o := a_p0_had) (a_o_words := a_p0_had_words)   hc2) yy_Pi_holds kf_Pi rfl mw_2_227 d_Ru_isBesideOneHad_29 rfl [] rfl rfl (Nat.le_of_ble_eq_true rfl) ⟨Nat.le_of_ble_eq_true rfl, Nat.le_of_ble_eq_true rfl⟩ rfl rfl (Nat.zero_le _) (Nat.zero_le _) 1 rfl [1, 2] rfl (by decide +kernel) rfl (g_lay_sel _ _ _ _ [(0, false), (0, true), (1, true)] (by decide +kernel) rfl (by decide +kernel) rfl rfl) rfl ?_
        refine g_if_eqb (pc' := 35) (tgt := 37) C d_Ru_isBesideOneHad_32 rfl rfl (fun h => ?_) (fun h => ?_)
        · replace hf := g_bf h hf
          refine g_lv (lv' := [(0, .ref a_p0), (1, .int v1), (2, .int v2)]) [1, 2, 3] rfl ?_
          exact w_Ru_isBesideOneHad_L37 (a_p0 := a_p0) (a_p0_had := a_p0_had) (a_p0_told := a_p0_told) (a_p0_last := a_p0_last) (a_p0_often := a_p0_often) (a_p0_had_words := a_p0_had_words) C  (f_Ru_isBesideOneHad_L2  n) ih v1 v2 x_p0_lamps x_p0_picture x_p0_had_words hf
        · replace hf := g_bt h hf
          refine g_iconst (pc' := 36) (v := 1) C d_Ru_isBesideOneHad_35 rfl rfl ?_
          replace hf := Option.some.inj hf; subst hf
          exact g_zret C d_Ru_isBesideOneHad_36 () rfl
def f_Ru_isBesideOneHad  (p1 : Int32) (x_p0_lamps : Int32) (x_p0_picture : Int32) (x_p0_had_words : Nat → Int64) : Option (Bool) :=
  f_Ru_isBesideOneHad_L2  3000 p1 (0 : Int32) x_p0_lamps x_p0_picture x_p0_had_words
set_option maxRecDepth 20000 in
theorem c_Ru_isBesideOneHad {l : Launch} {D : va_G} {dA : Nat → ClassId} {a_p0 a_p0_had a_p0_told a_p0_last a_p0_often a_p0_had_words : Nat} {x_p0_night : Int32} {x_p0_spent : Int32} {p1 : Int32} {x_p0_lamps : Int32} {x_p0_picture : Int32} {x_p0_had_words : Nat → Int64} {r0 : Bool}   (hf : f_Ru_isBesideOneHad  p1 x_p0_lamps x_p0_picture x_p0_had_words = some r0) : CT l y_Ru_isBesideOneHad prog_6_method_6_code 4 (some .boolean) { frames := 2, cells := 0, slots := 0, locals := 41 } D dA [.ref a_p0, .int p1] [O_Wa a_p0 x_p0_lamps x_p0_picture x_p0_night x_p0_spent a_p0_had a_p0_told a_p0_last a_p0_often, O_Pi a_p0_had a_p0_had_words, A_J dA a_p0_had_words 16 x_p0_had_words] (some (.int (b2i r0))) (fun _ : Unit => [O_Wa a_p0 x_p0_lamps x_p0_picture x_p0_night x_p0_spent a_p0_had a_p0_told a_p0_last a_p0_often, O_Pi a_p0_had a_p0_had_words, A_J dA a_p0_had_words 16 x_p0_had_words]) := by
  refine ct_intro "OneLamp$Rules" rfl (by decide +kernel) (Nat.le_of_ble_eq_true rfl) [(0, .ref a_p0), (1, .int p1)] rfl (fun _ C => ?_)
  unfold f_Ru_isBesideOneHad at hf
  refine g_iconst (pc' := 1) (v := 0) C d_Ru_isBesideOneHad_0 rfl rfl ?_
  refine g_istore_n (pc' := 2) (lv' := [(2, .int 0), (0, .ref a_p0), (1, .int p1)]) C d_Ru_isBesideOneHad_1 rfl (by decide) rfl ?_
  refine g_lv (lv' := [(0, .ref a_p0), (1, .int p1), (2, .int (0 : Int32))]) [1, 2, 0] rfl ?_
  exact w_Ru_isBesideOneHad_L2 (a_p0 := a_p0) (a_p0_had := a_p0_had) (a_p0_told := a_p0_told) (a_p0_last := a_p0_last) (a_p0_often := a_p0_often) (a_p0_had_words := a_p0_had_words) C   3000 p1 (0 : Int32) x_p0_lamps x_p0_picture x_p0_had_words hf
def y_Ru_allow : MethodName := ⟨"OneLamp$Rules", "allow", "(LOneLamp$Wall;I)Z"⟩
theorem yy_Ru_allow : YV y_Ru_allow prog_6_method_4_code 4 (some .boolean) 2 := ⟨mw_3_52, mw_1_5, mw_3_50, mw_3_51, by decide +kernel, by decide +kernel, by decide +kernel⟩
theorem d_Ru_allow_0 : decode prog_6_method_4_code 0 = .ok (.aload_n 1, 1) := by decide +kernel
theorem d_Ru_allow_1 : decode prog_6_method_4_code 1 = .ok (.iload_n 2, 1) := by decide +kernel
theorem d_Ru_allow_2 : decode prog_6_method_4_code 2 = .ok (.invokevirtual 62, 3) := by decide +kernel
theorem d_Ru_allow_5 : decode prog_6_method_4_code 5 = .ok (.ifCond .eq 12, 3) := by decide +kernel
theorem d_Ru_allow_8 : decode prog_6_method_4_code 8 = .ok (.aload_n 0, 1) := by decide +kernel
theorem d_Ru_allow_9 : decode prog_6_method_4_code 9 = .ok (.aload_n 1, 1) := by decide +kernel
theorem d_Ru_allow_10 : decode prog_6_method_4_code 10 = .ok (.iload_n 2, 1) := by decide +kernel
theorem d_Ru_allow_11 : decode prog_6_method_4_code 11 = .ok (.invokevirtual 65, 3) := by decide +kernel
theorem d_Ru_allow_14 : decode prog_6_method_4_code 14 = .ok (.ifCond .eq 5, 3) := by decide +kernel
theorem d_Ru_allow_17 : decode prog_6_method_4_code 17 = .ok (.iconst 0, 1) := by decide +kernel
theorem d_Ru_allow_18 : decode prog_6_method_4_code 18 = .ok (.ireturn, 1) := by decide +kernel
theorem d_Ru_allow_19 : decode prog_6_method_4_code 19 = .ok (.aload_n 1, 1) := by decide +kernel
theorem d_Ru_allow_20 : decode prog_6_method_4_code 20 = .ok (.getfield 69, 3) := by decide +kernel
theorem d_Ru_allow_23 : decode prog_6_method_4_code 23 = .ok (.iconst 1, 1) := by decide +kernel
theorem d_Ru_allow_24 : decode prog_6_method_4_code 24 = .ok (.iload_n 2, 1) := by decide +kernel
theorem d_Ru_allow_25 : decode prog_6_method_4_code 25 = .ok (.ishl, 1) := by decide +kernel
theorem d_Ru_allow_26 : decode prog_6_method_4_code 26 = .ok (.ixor, 1) := by decide +kernel
theorem d_Ru_allow_27 : decode prog_6_method_4_code 27 = .ok (.istore_n 3, 1) := by decide +kernel
theorem d_Ru_allow_28 : decode prog_6_method_4_code 28 = .ok (.aload_n 1, 1) := by decide +kernel
theorem d_Ru_allow_29 : decode prog_6_method_4_code 29 = .ok (.getfield 72, 3) := by decide +kernel
theorem d_Ru_allow_32 : decode prog_6_method_4_code 32 = .ok (.iload_n 3, 1) := by decide +kernel
theorem d_Ru_allow_33 : decode prog_6_method_4_code 33 = .ok (.invokevirtual 44, 3) := by decide +kernel
theorem d_Ru_allow_36 : decode prog_6_method_4_code 36 = .ok (.ifCond .ne 12, 3) := by decide +kernel
theorem d_Ru_allow_39 : decode prog_6_method_4_code 39 = .ok (.aload_n 0, 1) := by decide +kernel
theorem d_Ru_allow_40 : decode prog_6_method_4_code 40 = .ok (.aload_n 1, 1) := by decide +kernel
theorem d_Ru_allow_41 : decode prog_6_method_4_code 41 = .ok (.iload_n 3, 1) := by decide +kernel
theorem d_Ru_allow_42 : decode prog_6_method_4_code 42 = .ok (.invokevirtual 75, 3) := by decide +kernel
theorem d_Ru_allow_45 : decode prog_6_method_4_code 45 = .ok (.ifCond .eq 5, 3) := by decide +kernel
theorem d_Ru_allow_48 : decode prog_6_method_4_code 48 = .ok (.iconst 0, 1) := by decide +kernel
theorem d_Ru_allow_49 : decode prog_6_method_4_code 49 = .ok (.ireturn, 1) := by decide +kernel
theorem d_Ru_allow_50 : decode prog_6_method_4_code 50 = .ok (.aload_n 0, 1) := by decide +kernel
theorem d_Ru_allow_51 : decode prog_6_method_4_code 51 = .ok (.getfield 78, 3) := by decide +kernel
theorem d_Ru_allow_54 : decode prog_6_method_4_code 54 = .ok (.ifCond .eq 11, 3) := by decide +kernel
theorem d_Ru_allow_57 : decode prog_6_method_4_code 57 = .ok (.aload_n 1, 1) := by decide +kernel
theorem d_Ru_allow_58 : decode prog_6_method_4_code 58 = .ok (.iload_n 3, 1) := by decide +kernel
theorem d_Ru_allow_59 : decode prog_6_method_4_code 59 = .ok (.invokestatic 81, 3) := by decide +kernel
theorem d_Ru_allow_62 : decode prog_6_method_4_code 62 = .ok (.ifCond .ne 7, 3) := by decide +kernel
theorem d_Ru_allow_65 : decode prog_6_method_4_code 65 = .ok (.iconst 1, 1) := by decide +kernel
theorem d_Ru_allow_66 : decode prog_6_method_4_code 66 = .ok (.goto 4, 3) := by decide +kernel
theorem d_Ru_allow_69 : decode prog_6_method_4_code 69 = .ok (.iconst 0, 1) := by decide +kernel
theorem d_Ru_allow_70 : decode prog_6_method_4_code 70 = .ok (.ireturn, 1) := by decide +kernel
def f_Ru_allow  (p2 : Int32) (x_p1_lamps : Int32) (x_p1_picture : Int32) (x_p1_night : Int32) (x_p1_last : Nat → Int32) (x_o_rest : Int32) (x_o_shy : Int32) (x_o_askedForLamps : Int32) (x_p1_had_words : Nat → Int64) (x_o_asked_words : Nat → Int64) (x_o_forbidden_words : Nat → Int64) (x_o_law_length : Int32) (x_o_law_top : Int32) (x_o_law_code : Nat → Int32) (x_o_law_stack : Nat → Int32) (x_p1_told_words : Nat → Int64) : Option (Bool × Int32 × (Nat → Int64) × (Nat → Int64) × Int32 × (Nat → Int32)) :=
  (f_Wa_hasLamp  p2 x_p1_lamps).bind fun r1 =>
  if r1 = true then
    ((f_Ru_isResting  p2 x_p1_lamps x_p1_night x_p1_last x_o_rest).bind fun r3 =>
    if r3 = true then
      (some (false, x_o_askedForLamps, x_o_asked_words, x_o_forbidden_words, x_o_law_top, x_o_law_stack))
    else
      ((f_Pi_holds  (x_p1_picture ^^^ ((1 : Int32) <<< (p2 &&& 31))) x_p1_had_words).bind fun r5 =>
      if r5 = true then
        (some (false, x_o_askedForLamps, x_o_asked_words, x_o_forbidden_words, x_o_law_top, x_o_law_stack))
      else
        ((f_Ru_isBarred  (x_p1_picture ^^^ ((1 : Int32) <<< (p2 &&& 31))) x_p1_lamps x_o_askedForLamps x_o_asked_words x_o_forbidden_words x_o_law_length x_o_law_top x_o_law_code x_o_law_stack x_p1_told_words).bind fun (r7, u8, u9, u10, u11, u12) =>
        if r7 = true then
          (some (false, u8, u9, u10, u11, u12))
        else
          (if x_o_shy = 0 then
            (some (true, u8, u9, u10, u11, u12))
          else
            ((f_Ru_isBesideOneHad  (x_p1_picture ^^^ ((1 : Int32) <<< (p2 &&& 31))) x_p1_lamps x_p1_picture x_p1_had_words).bind fun r14 =>
            if r14 = true then
              (some (false, u8, u9, u10, u11, u12))
            else
              (some (true, u8, u9, u10, u11, u12)))))))
  else
    (some (false, x_o_askedForLamps, x_o_asked_words, x_o_forbidden_words, x_o_law_top, x_o_law_stack))
set_option maxRecDepth 20000 in
theorem c_Ru_allow {l : Launch} {D : va_G} {dA : Nat → ClassId} {a_o a_p1 a_p1_had a_p1_told a_p1_last a_p1_often a_o_law a_o_asked a_o_forbidden a_p1_had_words a_o_asked_words a_o_forbidden_words a_o_law_code a_o_law_stack a_p1_told_words : Nat} {x_p1_spent : Int32} {p2 : Int32} {x_p1_lamps : Int32} {x_p1_picture : Int32} {x_p1_night : Int32} {x_p1_last : Nat → Int32} {x_o_rest : Int32} {x_o_shy : Int32} {x_o_askedForLamps : Int32} {x_p1_had_words : Nat → Int64} {x_o_asked_words : Nat → Int64} {x_o_forbidden_words : Nat → Int64} {x_o_law_length : Int32} {x_o_law_top : Int32} {x_o_law_code : Nat → Int32} {x_o_law_stack : Nat → Int32} {x_p1_told_words : Nat → Int64} {r0 : Bool} {o_x_o_askedForLamps : Int32} {o_x_o_asked_words : Nat → Int64} {o_x_o_forbidden_words : Nat → Int64} {o_x_o_law_top : Int32} {o_x_o_law_stack : Nat → Int32}   (hf : f_Ru_allow  p2 x_p1_lamps x_p1_picture x_p1_night x_p1_last x_o_rest x_o_shy x_o_askedForLamps x_p1_had_words x_o_asked_words x_o_forbidden_words x_o_law_length x_o_law_top x_o_law_code x_o_law_stack x_p1_told_words = some (r0, o_x_o_askedForLamps, o_x_o_asked_words, o_x_o_forbidden_words, o_x_o_law_top, o_x_o_law_stack)) : CT l y_Ru_allow prog_6_method_4_code 4 (some .boolean) { frames := 4, cells := 0, slots := 0, locals := 92 } D dA [.ref a_o, .ref a_p1, .int p2] [O_Wa a_p1 x_p1_lamps x_p1_picture x_p1_night x_p1_spent a_p1_had a_p1_told a_p1_last a_p1_often, A_I dA a_p1_last 10 x_p1_last, O_Ru a_o x_o_rest x_o_shy a_o_law a_o_asked a_o_forbidden x_o_askedForLamps, O_Pi a_p1_had a_p1_had_words, A_J dA a_p1_had_words 16 x_p1_had_words, O_Pi a_o_asked a_o_asked_words, A_J dA a_o_asked_words 16 x_o_asked_words, O_Pi a_o_forbidden a_o_forbidden_words, A_J dA a_o_forbidden_words 16 x_o_forbidden_words, O_La a_o_law a_o_law_code x_o_law_length a_o_law_stack x_o_law_top, A_I dA a_o_law_code 256 x_o_law_code, A_I dA a_o_law_stack 256 x_o_law_stack, O_Pi a_p1_told a_p1_told_words, A_J dA a_p1_told_words 16 x_p1_told_words] (some (.int (b2i r0))) (fun _ : Unit => [O_Wa a_p1 x_p1_lamps x_p1_picture x_p1_night x_p1_spent a_p1_had a_p1_told a_p1_last a_p1_often, A_I dA a_p1_last 10 x_p1_last, O_Ru a_o x_o_rest x_o_shy a_o_law a_o_asked a_o_forbidden o_x_o_askedForLamps, O_Pi a_p1_had a_p1_had_words, A_J dA a_p1_had_words 16 x_p1_had_words, O_Pi a_o_asked a_o_asked_words, A_J dA a_o_asked_words 16 o_x_o_asked_words, O_Pi a_o_forbidden a_o_forbidden_words, A_J dA a_o_forbidden_words 16 o_x_o_forbidden_words, O_La a_o_law a_o_law_code x_o_law_length a_o_law_stack o_x_o_law_top, A_I dA a_o_law_code 256 x_o_law_code, A_I dA a_o_law_stack 256 o_x_o_law_stack, O_Pi a_p1_told a_p1_told_words, A_J dA a_p1_told_words 16 x_p1_told_words]) := by
  refine ct_intro "OneLamp$Rules" rfl (by decide +kernel) (Nat.le_of_ble_eq_true rfl) [(0, .ref a_o), (1, .ref a_p1), (2, .int p2)] rfl (fun _ C => ?_)
  unfold f_Ru_allow at hf
  refine g_aload_n (pc' := 1) C 1 d_Ru_allow_0 rfl rfl ?_
  refine g_iload_n (pc' := 2) C 2 d_Ru_allow_1 rfl rfl ?_
  replace hf := g_bi hf; obtain ⟨r1, hc2, hf⟩ := hf
  refine g_callV (pc' := 5) (st1 := [.int (b2i r1)]) (ws1 := [O_Wa a_p1 x_p1_lamps x_p1_picture x_p1_night x_p1_spent a_p1_had a_p1_told a_p1_last a_p1_often, A_I dA a_p1_last 10 x_p1_last, O_Ru a_o x_o_rest x_o_shy a_o_law a_o_asked a_o_forbidden x_o_askedForLamps, O_Pi a_p1_had a_p1_had_words, A_J dA a_p1_had_words 16 x_p1_had_words, O_Pi a_o_asked a_o_asked_words, A_J dA a_o_asked_words 16 x_o_asked_words, O_Pi a_o_forbidden a_o_forbidden_words, A_J dA a_o_forbidden_words 16 x_o_forbidden_words, O_La a_o_law a_o_law_code x_o_law_length a_o_law_stack x_o_law_top, A_I dA a_o_law_code 256 x_o_law_code, A_I dA a_o_law_stack 256 x_o_law_stack, O_Pi a_p1_told a_p1_told_words, A_J dA a_p1_told_words 16 x_p1_told_words]) C (c_Wa_hasLamp (l := l) (D := D) (dA := dA) (a_o := a_p1) (a_o_had := a_p1_had) (a_o_told := a_p1_told) (a_o_last := a_p1_last) (a_o_often := a_p1_often) (x_o_picture := x_p1_picture) (x_o_night := x_p1_night) (x_o_spent := x_p1_spent)   hc2) yy_Wa_hasLamp kf_Wa rfl mw_3_53 d_Ru_allow_2 rfl [] rfl rfl (Nat.le_of_ble_eq_true rfl) ⟨Nat.le_of_ble_eq_true rfl, Nat.le_of_ble_eq_true rfl⟩ rfl rfl (Nat.zero_le _) (Nat.zero_le _) 0 rfl [0] rfl (by decide +kernel) rfl (g_lay_sel _ _ _ _ [(0, true), (1, false), (2, false), (3, false), (4, false), (5, false), (6, false), (7, false), (8, false), (9, false), (10, false), (11, false), (12, false), (13, false)] (by decide +kernel) rfl (by decide +kernel) rfl rfl) rfl ?_
  refine g_if_eqb (pc' := 8) (tgt := 17) C d_Ru_allow_5 rfl rfl (fun h => ?_) (fun h => ?_)
  · replace hf := g_bf h hf
    refine g_iconst (pc' := 18) (v := 0) C d_Ru_allow_17 rfl rfl ?_
    replace hf := g_o2 hf; obtain ⟨h1, hf⟩ := hf; subst h1
    replace hf := g_o2 hf; obtain ⟨h1, hf⟩ := hf; subst h1
    replace hf := g_o2 hf; obtain ⟨h1, hf⟩ := hf; subst h1
    replace hf := g_o2 hf; obtain ⟨h1, hf⟩ := hf; subst h1
    replace hf := g_o2 hf; obtain ⟨h1, hf⟩ := hf; subst h1
    replace hf := Option.some.inj hf; subst hf
    exact g_zret C d_Ru_allow_18 () rfl
  · replace hf := g_bt h hf
    refine g_aload_n (pc' := 9) C 0 d_Ru_allow_8 rfl rfl ?_
    refine g_aload_n (pc' := 10) C 1 d_Ru_allow_9 rfl rfl ?_
    refine g_iload_n (pc' := 11) C 2 d_Ru_allow_10 rfl rfl ?_
    replace hf := g_bi hf; obtain ⟨r3, hc4, hf⟩ := hf
    refine g_callV (pc' := 14) (st1 := [.int (b2i r3)]) (ws1 := [O_Wa a_p1 x_p1_lamps x_p1_picture x_p1_night x_p1_spent a_p1_had a_p1_told a_p1_last a_p1_often, A_I dA a_p1_last 10 x_p1_last, O_Ru a_o x_o_rest x_o_shy a_o_law a_o_asked a_o_forbidden x_o_askedForLamps, O_Pi a_p1_had a_p1_had_words, A_J dA a_p1_had_words 16 x_p1_had_words, O_Pi a_o_asked a_o_asked_words, A_J dA a_o_asked_words 16 x_o_asked_words, O_Pi a_o_forbidden a_o_forbidden_words, A_J dA a_o_forbidden_words 16 x_o_forbidden_words, O_La a_o_law a_o_law_code x_o_law_length a_o_law_stack x_o_law_top, A_I dA a_o_law_code 256 x_o_law_code, A_I dA a_o_law_stack 256 x_o_law_stack, O_Pi a_p1_told a_p1_told_words, A_J dA a_p1_told_words 16 x_p1_told_words]) C (c_Ru_isResting (l := l) (D := D) (dA := dA) (a_o := a_o) (a_p1 := a_p1) (a_p1_had := a_p1_had) (a_p1_told := a_p1_told) (a_p1_last := a_p1_last) (a_p1_often := a_p1_often) (a_o_law := a_o_law) (a_o_asked := a_o_asked) (a_o_forbidden := a_o_forbidden) (x_p1_picture := x_p1_picture) (x_p1_spent := x_p1_spent) (x_o_shy := x_o_shy) (x_o_askedForLamps := x_o_askedForLamps)   hc4) yy_Ru_isResting kf_Ru rfl mw_3_54 d_Ru_allow_11 rfl [] rfl rfl (Nat.le_of_ble_eq_true rfl) ⟨Nat.le_of_ble_eq_true rfl, Nat.le_of_ble_eq_true rfl⟩ rfl rfl (Nat.zero_le _) (Nat.zero_le _) 2 rfl [0, 1, 2] rfl (by decide +kernel) rfl (g_lay_sel _ _ _ _ [(0, true), (1, true), (2, true), (3, false), (4, false), (5, false), (6, false), (7, false), (8, false), (9, false), (10, false), (11, false), (12, false), (13, false)] (by decide +kernel) rfl (by decide +kernel) rfl rfl) rfl ?_
    refine g_if_eqb (pc' := 17) (tgt := 19) C d_Ru_allow_14 rfl rfl (fun h => ?_) (fun h => ?_)
    · replace hf := g_bf h hf
      refine g_aload_n (pc' := 20) C 1 d_Ru_allow_19 rfl rfl ?_
      refine g_get (pc' := 23) C kf_Wa 1 mw_1_68 d_Ru_allow_20 rfl 0 rfl (by decide) rfl ?_
      refine g_iconst (pc' := 24) (v := 1) C d_Ru_allow_23 rfl rfl ?_
      refine g_iload_n (pc' := 25) C 2 d_Ru_allow_24 rfl rfl ?_
      refine g_ishl (pc' := 26) C d_Ru_allow_25 rfl ?_
      refine g_ixor (pc' := 27) C d_Ru_allow_26 rfl ?_
      refine g_istore_n (pc' := 28) (lv' := [(3, .int (x_p1_picture ^^^ ((1 : Int32) <<< (p2 &&& 31)))), (0, .ref a_o), (1, .ref a_p1), (2, .int p2)]) C d_Ru_allow_27 rfl (by decide) rfl ?_
      refine g_aload_n (pc' := 29) C 2 d_Ru_allow_28 rfl rfl ?_
      refine g_get (pc' := 32) C kf_Wa 4 mw_1_77 d_Ru_allow_29 rfl 0 rfl (by decide) rfl ?_
      refine g_iload_n (pc' := 33) C 0 d_Ru_allow_32 rfl rfl ?_
      replace hf := g_bi hf; obtain ⟨r5, hc6, hf⟩ := hf
      refine g_callV (pc' := 36) (st1 := [.int (b2i r5)]) (ws1 := [O_Wa a_p1 x_p1_lamps x_p1_picture x_p1_night x_p1_spent a_p1_had a_p1_told a_p1_last a_p1_often, A_I dA a_p1_last 10 x_p1_last, O_Ru a_o x_o_rest x_o_shy a_o_law a_o_asked a_o_forbidden x_o_askedForLamps, O_Pi a_p1_had a_p1_had_words, A_J dA a_p1_had_words 16 x_p1_had_words, O_Pi a_o_asked a_o_asked_words, A_J dA a_o_asked_words 16 x_o_asked_words, O_Pi a_o_forbidden a_o_forbidden_words, A_J dA a_o_forbidden_words 16 x_o_forbidden_words, O_La a_o_law a_o_law_code x_o_law_length a_o_law_stack x_o_law_top, A_I dA a_o_law_code 256 x_o_law_code, A_I dA a_o_law_stack 256 x_o_law_stack, O_Pi a_p1_told a_p1_told_words, A_J dA a_p1_told_words 16 x_p1_told_words]) C (c_Pi_holds (l := l) (D := D) (dA := dA) (a_o := a_p1_had) (a_o_words := a_p1_had_words)   hc6) yy_Pi_holds kf_Pi rfl mw_2_227 d_Ru_allow_33 rfl [] rfl rfl (Nat.le_of_ble_eq_true rfl) ⟨Nat.le_of_ble_eq_true rfl, Nat.le_of_ble_eq_true rfl⟩ rfl rfl (Nat.zero_le _) (Nat.zero_le _) 3 rfl [3, 4] rfl (by decide +kernel) rfl (g_lay_sel _ _ _ _ [(0, false), (1, false), (2, false), (0, true), (1, true), (5, false), (6, false), (7, false), (8, false), (9, false), (10, false), (11, false), (12, false), (13, false)] (by decide +kernel) rfl (by decide +kernel) rfl rfl) rfl ?_
      refine g_if_neb (pc' := 39) (tgt := 48) C d_Ru_allow_36 rfl rfl (fun h => ?_) (fun h => ?_)
      · replace hf := g_bt h hf
        refine g_iconst (pc' := 49) (v := 0) C d_Ru_allow_48 rfl rfl ?_
        replace hf := g_o2 hf; obtain ⟨h1, hf⟩ := hf; subst h1
        replace hf := g_o2 hf; obtain ⟨h1, hf⟩ := hf; subst h1
        replace hf := g_o2 hf; obtain ⟨h1, hf⟩ := hf; subst h1
        replace hf := g_o2 hf; obtain ⟨h1, hf⟩ := hf; subst h1
        replace hf := g_o2 hf; obtain ⟨h1, hf⟩ := hf; subst h1
        replace hf := Option.some.inj hf; subst hf
        exact g_zret C d_Ru_allow_49 () rfl
      · replace hf := g_bf h hf
        refine g_aload_n (pc' := 40) C 1 d_Ru_allow_39 rfl rfl ?_
        refine g_aload_n (pc' := 41) C 2 d_Ru_allow_40 rfl rfl ?_
        refine g_iload_n (pc' := 42) C 0 d_Ru_allow_41 rfl rfl ?_
        replace hf := g_bi hf; obtain ⟨⟨r7, u8, u9, u10, u11, u12⟩, hc13, hf⟩ := hf
        dsimp only at hf
        refine g_callV (pc' := 45) (st1 := [.int (b2i r7)]) (ws1 := [O_Wa a_p1 x_p1_lamps x_p1_picture x_p1_night x_p1_spent a_p1_had a_p1_told a_p1_last a_p1_often, A_I dA a_p1_last 10 x_p1_last, O_Ru a_o x_o_rest x_o_shy a_o_law a_o_asked a_o_forbidden u8, O_Pi a_p1_had a_p1_had_words, A_J dA a_p1_had_words 16 x_p1_had_words, O_Pi a_o_asked a_o_asked_words, A_J dA a_o_asked_words 16 u9, O_Pi a_o_forbidden a_o_forbidden_words, A_J dA a_o_forbidden_words 16 u10, O_La a_o_law a_o_law_code x_o_law_length a_o_law_stack u11, A_I dA a_o_law_code 256 x_o_law_code, A_I dA a_o_law_stack 256 u12, O_Pi a_p1_told a_p1_told_words, A_J dA a_p1_told_words 16 x_p1_told_words]) C (c_Ru_isBarred (l := l) (D := D) (dA := dA) (a_o := a_o) (a_p1 := a_p1) (a_p1_had := a_p1_had) (a_p1_told := a_p1_told) (a_p1_last := a_p1_last) (a_p1_often := a_p1_often) (a_o_law := a_o_law) (a_o_asked := a_o_asked) (a_o_forbidden := a_o_forbidden) (a_o_asked_words := a_o_asked_words) (a_o_forbidden_words := a_o_forbidden_words) (a_o_law_code := a_o_law_code) (a_o_law_stack := a_o_law_stack) (a_p1_told_words := a_p1_told_words) (x_p1_picture := x_p1_picture) (x_p1_night := x_p1_night) (x_p1_spent := x_p1_spent) (x_o_rest := x_o_rest) (x_o_shy := x_o_shy)   hc13) yy_Ru_isBarred kf_Ru rfl mw_3_59 d_Ru_allow_42 rfl [] rfl rfl (Nat.le_of_ble_eq_true rfl) ⟨Nat.le_of_ble_eq_true rfl, Nat.le_of_ble_eq_true rfl⟩ rfl rfl (Nat.zero_le _) (Nat.zero_le _) 2 rfl [0, 2, 5, 6, 7, 8, 9, 10, 11, 12, 13] rfl (by decide +kernel) rfl (g_lay_sel _ _ _ _ [(0, true), (1, false), (1, true), (3, false), (4, false), (2, true), (3, true), (4, true), (5, true), (6, true), (7, true), (8, true), (9, true), (10, true)] (by decide +kernel) rfl (by decide +kernel) rfl rfl) rfl ?_
        refine g_if_eqb (pc' := 48) (tgt := 50) C d_Ru_allow_45 rfl rfl (fun h => ?_) (fun h => ?_)
        · replace hf := g_bf h hf
          refine g_aload_n (pc' := 51) C 1 d_Ru_allow_50 rfl rfl ?_
          refine g_get (pc' := 54) C kf_Ru 1 mw_1_132 d_Ru_allow_51 rfl 2 rfl (by decide) rfl ?_
          refine g_if_eq (pc' := 57) (tgt := 65) C d_Ru_allow_54 rfl rfl (fun h => ?_) (fun h => ?_)
          · replace hf := g_ip h hf
            refine g_iconst (pc' := 66) (v := 1) C d_Ru_allow_65 rfl rfl ?_
            refine g_goto (tgt := 70) C d_Ru_allow_66 rfl ?_
            replace hf := g_o2 hf; obtain ⟨h1, hf⟩ := hf; subst h1
            replace hf := g_o2 hf; obtain ⟨h1, hf⟩ := hf; subst h1
            replace hf := g_o2 hf; obtain ⟨h1, hf⟩ := hf; subst h1
            replace hf := g_o2 hf; obtain ⟨h1, hf⟩ := hf; subst h1
            replace hf := g_o2 hf; obtain ⟨h1, hf⟩ := hf; subst h1
            replace hf := Option.some.inj hf; subst hf
            exact g_zret C d_Ru_allow_70 () rfl
          · replace hf := g_in h hf
            refine g_aload_n (pc' := 58) C 2 d_Ru_allow_57 rfl rfl ?_
            refine g_iload_n (pc' := 59) C 0 d_Ru_allow_58 rfl rfl ?_
            replace hf := g_bi hf; obtain ⟨r14, hc15, hf⟩ := hf
            refine g_callS (pc' := 62) (st1 := [.int (b2i r14)]) (ws1 := [O_Wa a_p1 x_p1_lamps x_p1_picture x_p1_night x_p1_spent a_p1_had a_p1_told a_p1_last a_p1_often, A_I dA a_p1_last 10 x_p1_last, O_Ru a_o x_o_rest x_o_shy a_o_law a_o_asked a_o_forbidden u8, O_Pi a_p1_had a_p1_had_words, A_J dA a_p1_had_words 16 x_p1_had_words, O_Pi a_o_asked a_o_asked_words, A_J dA a_o_asked_words 16 u9, O_Pi a_o_forbidden a_o_forbidden_words, A_J dA a_o_forbidden_words 16 u10, O_La a_o_law a_o_law_code x_o_law_length a_o_law_stack u11, A_I dA a_o_law_code 256 x_o_law_code, A_I dA a_o_law_stack 256 u12, O_Pi a_p1_told a_p1_told_words, A_J dA a_p1_told_words 16 x_p1_told_words]) C (c_Ru_isBesideOneHad (l := l) (D := D) (dA := dA) (a_p0 := a_p1) (a_p0_had := a_p1_had) (a_p0_told := a_p1_told) (a_p0_last := a_p1_last) (a_p0_often := a_p1_often) (a_p0_had_words := a_p1_had_words) (x_p0_night := x_p1_night) (x_p0_spent := x_p1_spent)   hc15) yy_Ru_isBesideOneHad mw_3_60 d_Ru_allow_59 rfl [] rfl rfl (Nat.le_of_ble_eq_true rfl) ⟨Nat.le_of_ble_eq_true rfl, Nat.le_of_ble_eq_true rfl⟩ rfl rfl (Nat.zero_le _) (Nat.zero_le _) [0, 3, 4] rfl (by decide +kernel) rfl (g_lay_sel _ _ _ _ [(0, true), (1, false), (2, false), (1, true), (2, true), (5, false), (6, false), (7, false), (8, false), (9, false), (10, false), (11, false), (12, false), (13, false)] (by decide +kernel) rfl (by decide +kernel) rfl rfl) rfl ?_
            refine g_if_neb (pc' := 65) (tgt := 69) C d_Ru_allow_62 rfl rfl (fun h => ?_) (fun h => ?_)
            · replace hf := g_bt h hf
              refine g_iconst (pc' := 70) (v := 0) C d_Ru_allow_69 rfl rfl ?_
              replace hf := g_o2 hf; obtain ⟨h1, hf⟩ := hf; subst h1
              replace hf := g_o2 hf; obtain ⟨h1, hf⟩ := hf; subst h1
              replace hf := g_o2 hf; obtain ⟨h1, hf⟩ := hf; subst h1
              replace hf := g_o2 hf; obtain ⟨h1, hf⟩ := hf; subst h1
              replace hf := g_o2 hf; obtain ⟨h1, hf⟩ := hf; subst h1
              replace hf := Option.some.inj hf; subst hf
              exact g_zret C d_Ru_allow_70 () rfl
            · replace hf := g_bf h hf
              refine g_iconst (pc' := 66) (v := 1) C d_Ru_allow_65 rfl rfl ?_
              refine g_goto (tgt := 70) C d_Ru_allow_66 rfl ?_
              replace hf := g_o2 hf; obtain ⟨h1, hf⟩ := hf; subst h1
              replace hf := g_o2 hf; obtain ⟨h1, hf⟩ := hf; subst h1
              replace hf := g_o2 hf; obtain ⟨h1, hf⟩ := hf; subst h1
              replace hf := g_o2 hf; obtain ⟨h1, hf⟩ := hf; subst h1
              replace hf := g_o2 hf; obtain ⟨h1, hf⟩ := hf; subst h1
              replace hf := Option.some.inj hf; subst hf
              exact g_zret C d_Ru_allow_70 () rfl
        · replace hf := g_bt h hf
          refine g_iconst (pc' := 49) (v := 0) C d_Ru_allow_48 rfl rfl ?_
          replace hf := g_o2 hf; obtain ⟨h1, hf⟩ := hf; subst h1
          replace hf := g_o2 hf; obtain ⟨h1, hf⟩ := hf; subst h1
          replace hf := g_o2 hf; obtain ⟨h1, hf⟩ := hf; subst h1
          replace hf := g_o2 hf; obtain ⟨h1, hf⟩ := hf; subst h1
          replace hf := g_o2 hf; obtain ⟨h1, hf⟩ := hf; subst h1
          replace hf := Option.some.inj hf; subst hf
          exact g_zret C d_Ru_allow_49 () rfl
    · replace hf := g_bt h hf
      refine g_iconst (pc' := 18) (v := 0) C d_Ru_allow_17 rfl rfl ?_
      replace hf := g_o2 hf; obtain ⟨h1, hf⟩ := hf; subst h1
      replace hf := g_o2 hf; obtain ⟨h1, hf⟩ := hf; subst h1
      replace hf := g_o2 hf; obtain ⟨h1, hf⟩ := hf; subst h1
      replace hf := g_o2 hf; obtain ⟨h1, hf⟩ := hf; subst h1
      replace hf := g_o2 hf; obtain ⟨h1, hf⟩ := hf; subst h1
      replace hf := Option.some.inj hf; subst hf
      exact g_zret C d_Ru_allow_18 () rfl
