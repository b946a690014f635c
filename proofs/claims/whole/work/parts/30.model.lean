def y_Mo_in : MethodName := ⟨"OneLampModel", "in", "(III)Z"⟩
theorem yy_Mo_in : YS y_Mo_in prog_13_method_3_code 3 (some .boolean) 3 := ⟨mw_5_82, mw_1_12, mw_5_81, by decide +kernel, by decide +kernel, by decide +kernel⟩
theorem d_Mo_in_0 : decode prog_13_method_3_code 0 = .ok (.iload_n 0, 1) := by decide +kernel
theorem d_Mo_in_1 : decode prog_13_method_3_code 1 = .ok (.iload_n 1, 1) := by decide +kernel
theorem d_Mo_in_2 : decode prog_13_method_3_code 2 = .ok (.if_icmp .lt 12, 3) := by decide +kernel
theorem d_Mo_in_5 : decode prog_13_method_3_code 5 = .ok (.iload_n 0, 1) := by decide +kernel
theorem d_Mo_in_6 : decode prog_13_method_3_code 6 = .ok (.iload_n 2, 1) := by decide +kernel
theorem d_Mo_in_7 : decode prog_13_method_3_code 7 = .ok (.if_icmp .gt 7, 3) := by decide +kernel
theorem d_Mo_in_10 : decode prog_13_method_3_code 10 = .ok (.iconst 1, 1) := by decide +kernel
theorem d_Mo_in_11 : decode prog_13_method_3_code 11 = .ok (.goto 4, 3) := by decide +kernel
theorem d_Mo_in_14 : decode prog_13_method_3_code 14 = .ok (.iconst 0, 1) := by decide +kernel
theorem d_Mo_in_15 : decode prog_13_method_3_code 15 = .ok (.ireturn, 1) := by decide +kernel
def f_Mo_in  (p0 : Int32) (p1 : Int32) (p2 : Int32) : Option (Bool) :=
  if p0 < p1 then
    (some (false))
  else
    (if p2 < p0 then
      (some (false))
    else
      (some (true)))
set_option maxRecDepth 20000 in
theorem c_Mo_in {l : Launch} {D : va_G} {dA : Nat → ClassId}   {p0 : Int32} {p1 : Int32} {p2 : Int32} {r0 : Bool}   (hf : f_Mo_in  p0 p1 p2 = some r0) : CT l y_Mo_in prog_13_method_3_code 3 (some .boolean) { frames := 0, cells := 0, slots := 0, locals := 0 } D dA [.int p0, .int p1, .int p2] [] (some (.int (b2i r0))) (fun _ : Unit => []) := by
  refine ct_intro "OneLampModel" rfl (by decide +kernel) (Nat.le_of_ble_eq_true rfl) [(0, .int p0), (1, .int p1), (2, .int p2)] rfl (fun _ C => ?_)
  unfold f_Mo_in at hf
  refine g_iload_n (pc' := 1) C 0 d_Mo_in_0 rfl rfl ?_
  refine g_iload_n (pc' := 2) C 1 d_Mo_in_1 rfl rfl ?_
  refine g_icmp_lt (pc' := 5) (tgt := 14) C d_Mo_in_2 rfl rfl (fun h => ?_) (fun h => ?_)
  · replace hf := g_ip h hf
    refine g_iconst (pc' := 15) (v := 0) C d_Mo_in_14 rfl rfl ?_
    replace hf := Option.some.inj hf; subst hf
    exact g_zret C d_Mo_in_15 () rfl
  · replace hf := g_in h hf
    refine g_iload_n (pc' := 6) C 0 d_Mo_in_5 rfl rfl ?_
    refine g_iload_n (pc' := 7) C 2 d_Mo_in_6 rfl rfl ?_
    refine g_icmp_gt (pc' := 10) (tgt := 14) C d_Mo_in_7 rfl rfl (fun h => ?_) (fun h => ?_)
    · replace hf := g_ip h hf
      refine g_iconst (pc' := 15) (v := 0) C d_Mo_in_14 rfl rfl ?_
      replace hf := Option.some.inj hf; subst hf
      exact g_zret C d_Mo_in_15 () rfl
    · replace hf := g_in h hf
      refine g_iconst (pc' := 11) (v := 1) C d_Mo_in_10 rfl rfl ?_
      refine g_goto (tgt := 15) C d_Mo_in_11 rfl ?_
      replace hf := Option.some.inj hf; subst hf
      exact g_zret C d_Mo_in_15 () rfl
def y_Mo_litOf : MethodName := ⟨"OneLampModel", "litOf", "(I)I"⟩
theorem yy_Mo_litOf : YS y_Mo_litOf prog_13_method_4_code 3 (some .int) 1 := ⟨mw_5_227, mw_1_12, mw_5_226, by decide +kernel, by decide +kernel, by decide +kernel⟩
theorem d_Mo_litOf_0 : decode prog_13_method_4_code 0 = .ok (.iconst 0, 1) := by decide +kernel
theorem d_Mo_litOf_1 : decode prog_13_method_4_code 1 = .ok (.istore_n 1, 1) := by decide +kernel
theorem d_Mo_litOf_2 : decode prog_13_method_4_code 2 = .ok (.iload_n 0, 1) := by decide +kernel
theorem d_Mo_litOf_3 : decode prog_13_method_4_code 3 = .ok (.istore_n 2, 1) := by decide +kernel
theorem d_Mo_litOf_4 : decode prog_13_method_4_code 4 = .ok (.iload_n 2, 1) := by decide +kernel
theorem d_Mo_litOf_5 : decode prog_13_method_4_code 5 = .ok (.ifCond .eq 15, 3) := by decide +kernel
theorem d_Mo_litOf_8 : decode prog_13_method_4_code 8 = .ok (.iinc 1 1, 3) := by decide +kernel
theorem d_Mo_litOf_11 : decode prog_13_method_4_code 11 = .ok (.iload_n 2, 1) := by decide +kernel
theorem d_Mo_litOf_12 : decode prog_13_method_4_code 12 = .ok (.iload_n 2, 1) := by decide +kernel
theorem d_Mo_litOf_13 : decode prog_13_method_4_code 13 = .ok (.iconst 1, 1) := by decide +kernel
theorem d_Mo_litOf_14 : decode prog_13_method_4_code 14 = .ok (.isub, 1) := by decide +kernel
theorem d_Mo_litOf_15 : decode prog_13_method_4_code 15 = .ok (.iand, 1) := by decide +kernel
theorem d_Mo_litOf_16 : decode prog_13_method_4_code 16 = .ok (.istore_n 2, 1) := by decide +kernel
theorem d_Mo_litOf_17 : decode prog_13_method_4_code 17 = .ok (.goto (-13), 3) := by decide +kernel
theorem d_Mo_litOf_20 : decode prog_13_method_4_code 20 = .ok (.iload_n 1, 1) := by decide +kernel
theorem d_Mo_litOf_21 : decode prog_13_method_4_code 21 = .ok (.ireturn, 1) := by decide +kernel
def f_Mo_litOf_L4   : Nat → Int32 → Int32 → Option (Int32)
  | 0, _, _ => none
  | n + 1, v1, v2 =>
    if v2 = 0 then
      (some (v1))
    else
      (f_Mo_litOf_L4  n (v1 + 1) (v2 &&& (v2 - (1 : Int32))))
set_option maxRecDepth 20000 in
theorem w_Mo_litOf_L4 {p : Program} {l : Launch} {e : Env} {s : State} {m : MethodId} {args : Array Value} {below : List Frame} {meth : Method} {c : Code} {D : va_G} {dA : Nat → ClassId} {A : Nat → Prop} (C : GC p s m args meth c prog_13_method_4_code 3 "OneLampModel" (some .int) D dA A)   {r0 : Int32}    : ∀ (n : Nat) (v1 : Int32) (v2 : Int32), f_Mo_litOf_L4   n v1 v2 = some r0 → GG p l e { frames := 0, cells := 0, slots := 0, locals := 0 } s m args below meth c 3 D A 0 0 (MQ below (cQ D A (some (.int r0)) (fun _ : Unit => [])) args s 0 0 A) 4 [(1, .int v1), (2, .int v2)] [] [] := by
  intro n
  induction n with
  | zero =>
    intro v1 v2 hf
    cases hf
  | succ n ih =>
    intro v1 v2 hf
    unfold f_Mo_litOf_L4 at hf
    refine g_iload_n (pc' := 5) C 1 d_Mo_litOf_4 rfl rfl ?_
    refine g_if_eq (pc' := 8) (tgt := 20) C d_Mo_litOf_5 rfl rfl (fun h => ?_) (fun h => ?_)
    · replace hf := g_ip h hf
      refine g_iload_n (pc' := 21) C 0 d_Mo_litOf_20 rfl rfl ?_
      replace hf := Option.some.inj hf; subst hf
      exact g_iret C d_Mo_litOf_21 () rfl
    · replace hf := g_in h hf
      refine g_iinc (pc' := 11) (j := 0) (v := (v1 + 1)) (lv' := [(1, .int (v1 + 1)), (2, .int v2)]) C d_Mo_litOf_8 rfl rfl rfl (by decide) rfl ?_
      refine g_iload_n (pc' := 12) C 1 d_Mo_litOf_11 rfl rfl ?_
      refine g_iload_n (pc' := 13) C 1 d_Mo_litOf_12 rfl rfl ?_
      refine g_iconst (pc' := 14) (v := 1) C d_Mo_litOf_13 rfl rfl ?_
      refine g_isub (pc' := 15) C d_Mo_litOf_14 rfl ?_
      refine g_iand (pc' := 16) C d_Mo_litOf_15 rfl ?_
      refine g_istore_n (pc' := 17) (lv' := [(2, .int (v2 &&& (v2 - (1 : Int32)))), (1, .int (v1 + 1))]) C d_Mo_litOf_16 rfl (by decide) rfl ?_
      refine g_goto (tgt := 4) C d_Mo_litOf_17 rfl ?_
      refine g_lv (lv' := [(1, .int (v1 + 1)), (2, .int (v2 &&& (v2 - (1 : Int32))))]) [1, 0] rfl ?_
      exact ih (v1 + 1) (v2 &&& (v2 - (1 : Int32))) hf
def f_Mo_litOf  (p0 : Int32) : Option (Int32) :=
  f_Mo_litOf_L4  3000 (0 : Int32) p0
set_option maxRecDepth 20000 in
theorem c_Mo_litOf {l : Launch} {D : va_G} {dA : Nat → ClassId}   {p0 : Int32} {r0 : Int32}   (hf : f_Mo_litOf  p0 = some r0) : CT l y_Mo_litOf prog_13_method_4_code 3 (some .int) { frames := 0, cells := 0, slots := 0, locals := 0 } D dA [.int p0] [] (some (.int r0)) (fun _ : Unit => []) := by
  refine ct_intro "OneLampModel" rfl (by decide +kernel) (Nat.le_of_ble_eq_true rfl) [(0, .int p0)] rfl (fun _ C => ?_)
  unfold f_Mo_litOf at hf
  refine g_iconst (pc' := 1) (v := 0) C d_Mo_litOf_0 rfl rfl ?_
  refine g_istore_n (pc' := 2) (lv' := [(1, .int 0), (0, .int p0)]) C d_Mo_litOf_1 rfl (by decide) rfl ?_
  refine g_iload_n (pc' := 3) C 1 d_Mo_litOf_2 rfl rfl ?_
  refine g_istore_n (pc' := 4) (lv' := [(2, .int p0), (1, .int 0), (0, .int p0)]) C d_Mo_litOf_3 rfl (by decide) rfl ?_
  refine g_lv (lv' := [(1, .int (0 : Int32)), (2, .int p0)]) [1, 0] rfl ?_
  exact w_Mo_litOf_L4  C   3000 (0 : Int32) p0 hf
def y_Mo_pictures : MethodName := ⟨"OneLampModel", "pictures", "()I"⟩
theorem yy_Mo_pictures : YV y_Mo_pictures prog_13_method_5_code 1 (some .int) 0 := ⟨mw_5_98, mw_1_12, mw_5_97, tm_s (y := y_Mo_pictures) (n := 58) (by decide +kernel), by decide +kernel, by decide +kernel, by decide +kernel⟩
theorem d_Mo_pictures_0 : decode prog_13_method_5_code 0 = .ok (.iconst 1, 1) := by decide +kernel
theorem d_Mo_pictures_1 : decode prog_13_method_5_code 1 = .ok (.aload_n 0, 1) := by decide +kernel
theorem d_Mo_pictures_2 : decode prog_13_method_5_code 2 = .ok (.getfield 7, 3) := by decide +kernel
theorem d_Mo_pictures_5 : decode prog_13_method_5_code 5 = .ok (.ishl, 1) := by decide +kernel
theorem d_Mo_pictures_6 : decode prog_13_method_5_code 6 = .ok (.ireturn, 1) := by decide +kernel
def f_Mo_pictures  (x_o_lamps : Int32) : Option (Int32) :=
  some (((1 : Int32) <<< (x_o_lamps &&& 31)))
set_option maxRecDepth 20000 in
theorem c_Mo_pictures {l : Launch} {D : va_G} {dA : Nat → ClassId} {a_o a_o_had a_o_told a_o_barred a_o_cost a_o_last a_o_often a_o_changeOf a_o_changeAt a_o_before a_o_behind a_o_tape a_o_act a_o_with a_o_lineMany a_o_testEnd a_o_lineEnd a_o_facts a_o_pile a_o_way a_o_bestWay a_o_wasHad a_o_wasLast a_o_keptHad a_o_keptTold a_o_keptLast a_o_keptOften a_o_kind a_o_traced a_o_holds a_o_size a_o_elements a_o_shifted : Nat} {x_o_code : Int32} {x_o_at : Int32} {x_o_night : Int32} {x_o_spent : Int32} {x_o_rest : Int32} {x_o_shy : Int32} {x_o_hasBegun : Bool} {x_o_doneMany : Int32} {x_o_undoneMany : Int32} {x_o_taped : Int32} {x_o_here : Int32} {x_o_fault : Int32} {x_o_open : Int32} {x_o_laid : Int32} {x_o_hasLaw : Bool} {x_o_bestMany : Int32} {x_o_wasAt : Int32} {x_o_wasNight : Int32} {x_o_hasImage : Bool} {x_o_keptLamps : Int32} {x_o_keptAt : Int32} {x_o_keptNight : Int32} {x_o_keptSpent : Int32} {x_o_bodies : Int32} {x_o_traces : Int32} {x_o_lamps : Int32} {r0 : Int32}   (hf : f_Mo_pictures  x_o_lamps = some r0) : CT l y_Mo_pictures prog_13_method_5_code 1 (some .int) { frames := 0, cells := 0, slots := 0, locals := 0 } D dA [.ref a_o] [O_Mo a_o x_o_code x_o_lamps x_o_at x_o_night x_o_spent x_o_rest x_o_shy a_o_had a_o_told a_o_barred a_o_cost a_o_last a_o_often x_o_hasBegun x_o_doneMany x_o_undoneMany a_o_changeOf a_o_changeAt a_o_before a_o_behind a_o_tape x_o_taped x_o_here x_o_fault x_o_open x_o_laid a_o_act a_o_with a_o_lineMany a_o_testEnd a_o_lineEnd a_o_facts a_o_pile x_o_hasLaw a_o_way a_o_bestWay x_o_bestMany a_o_wasHad a_o_wasLast x_o_wasAt x_o_wasNight x_o_hasImage x_o_keptLamps x_o_keptAt x_o_keptNight x_o_keptSpent a_o_keptHad a_o_keptTold a_o_keptLast a_o_keptOften x_o_bodies a_o_kind x_o_traces a_o_traced a_o_holds a_o_size a_o_elements a_o_shifted] (some (.int r0)) (fun _ : Unit => [O_Mo a_o x_o_code x_o_lamps x_o_at x_o_night x_o_spent x_o_rest x_o_shy a_o_had a_o_told a_o_barred a_o_cost a_o_last a_o_often x_o_hasBegun x_o_doneMany x_o_undoneMany a_o_changeOf a_o_changeAt a_o_before a_o_behind a_o_tape x_o_taped x_o_here x_o_fault x_o_open x_o_laid a_o_act a_o_with a_o_lineMany a_o_testEnd a_o_lineEnd a_o_facts a_o_pile x_o_hasLaw a_o_way a_o_bestWay x_o_bestMany a_o_wasHad a_o_wasLast x_o_wasAt x_o_wasNight x_o_hasImage x_o_keptLamps x_o_keptAt x_o_keptNight x_o_keptSpent a_o_keptHad a_o_keptTold a_o_keptLast a_o_keptOften x_o_bodies a_o_kind x_o_traces a_o_traced a_o_holds a_o_size a_o_elements a_o_shifted]) := by
  refine ct_intro "OneLampModel" rfl (by decide +kernel) (Nat.le_of_ble_eq_true rfl) [(0, .ref a_o)] rfl (fun _ C => ?_)
  unfold f_Mo_pictures at hf
  refine g_iconst (pc' := 1) (v := 1) C d_Mo_pictures_0 rfl rfl ?_
  refine g_aload_n (pc' := 2) C 0 d_Mo_pictures_1 rfl rfl ?_
  refine g_get (pc' := 5) C kf_Mo 1 mw_4_139 d_Mo_pictures_2 rfl 0 rfl (by decide) rfl ?_
  refine g_ishl (pc' := 6) C d_Mo_pictures_5 rfl ?_
  replace hf := Option.some.inj hf; subst hf
  exact g_iret C d_Mo_pictures_6 () rfl
def y_Mo_isPicture : MethodName := ⟨"OneLampModel", "isPicture", "(I)Z"⟩
theorem yy_Mo_isPicture : YV y_Mo_isPicture prog_13_method_6_code 2 (some .boolean) 1 := ⟨mw_5_94, mw_1_12, mw_5_93, tm_s (y := y_Mo_isPicture) (n := 58) (by decide +kernel), by decide +kernel, by decide +kernel, by decide +kernel⟩
theorem d_Mo_isPicture_0 : decode prog_13_method_6_code 0 = .ok (.iload_n 1, 1) := by decide +kernel
theorem d_Mo_isPicture_1 : decode prog_13_method_6_code 1 = .ok (.iconst 0, 1) := by decide +kernel
theorem d_Mo_isPicture_2 : decode prog_13_method_6_code 2 = .ok (.aload_n 0, 1) := by decide +kernel
theorem d_Mo_isPicture_3 : decode prog_13_method_6_code 3 = .ok (.invokevirtual 117, 3) := by decide +kernel
theorem d_Mo_isPicture_6 : decode prog_13_method_6_code 6 = .ok (.iconst 1, 1) := by decide +kernel
theorem d_Mo_isPicture_7 : decode prog_13_method_6_code 7 = .ok (.isub, 1) := by decide +kernel
theorem d_Mo_isPicture_8 : decode prog_13_method_6_code 8 = .ok (.invokestatic 121, 3) := by decide +kernel
theorem d_Mo_isPicture_11 : decode prog_13_method_6_code 11 = .ok (.ireturn, 1) := by decide +kernel
def f_Mo_isPicture  (p1 : Int32) (x_o_lamps : Int32) : Option (Bool) :=
  (f_Mo_pictures  x_o_lamps).bind fun r1 =>
  (f_Mo_in  p1 (0 : Int32) (r1 - (1 : Int32))).bind fun r3 =>
  some (r3)
set_option maxRecDepth 20000 in
theorem c_Mo_isPicture {l : Launch} {D : va_G} {dA : Nat → ClassId} {a_o a_o_had a_o_told a_o_barred a_o_cost a_o_last a_o_often a_o_changeOf a_o_changeAt a_o_before a_o_behind a_o_tape a_o_act a_o_with a_o_lineMany a_o_testEnd a_o_lineEnd a_o_facts a_o_pile a_o_way a_o_bestWay a_o_wasHad a_o_wasLast a_o_keptHad a_o_keptTold a_o_keptLast a_o_keptOften a_o_kind a_o_traced a_o_holds a_o_size a_o_elements a_o_shifted : Nat} {x_o_code : Int32} {x_o_at : Int32} {x_o_night : Int32} {x_o_spent : Int32} {x_o_rest : Int32} {x_o_shy : Int32} {x_o_hasBegun : Bool} {x_o_doneMany : Int32} {x_o_undoneMany : Int32} {x_o_taped : Int32} {x_o_here : Int32} {x_o_fault : Int32} {x_o_open : Int32} {x_o_laid : Int32} {x_o_hasLaw : Bool} {x_o_bestMany : Int32} {x_o_wasAt : Int32} {x_o_wasNight : Int32} {x_o_hasImage : Bool} {x_o_keptLamps : Int32} {x_o_keptAt : Int32} {x_o_keptNight : Int32} {x_o_keptSpent : Int32} {x_o_bodies : Int32} {x_o_traces : Int32} {p1 : Int32} {x_o_lamps : Int32} {r0 : Bool}   (hf : f_Mo_isPicture  p1 x_o_lamps = some r0) : CT l y_Mo_isPicture prog_13_method_6_code 2 (some .boolean) { frames := 1, cells := 0, slots := 0, locals := 22 } D dA [.ref a_o, .int p1] [O_Mo a_o x_o_code x_o_lamps x_o_at x_o_night x_o_spent x_o_rest x_o_shy a_o_had a_o_told a_o_barred a_o_cost a_o_last a_o_often x_o_hasBegun x_o_doneMany x_o_undoneMany a_o_changeOf a_o_changeAt a_o_before a_o_behind a_o_tape x_o_taped x_o_here x_o_fault x_o_open x_o_laid a_o_act a_o_with a_o_lineMany a_o_testEnd a_o_lineEnd a_o_facts a_o_pile x_o_hasLaw a_o_way a_o_bestWay x_o_bestMany a_o_wasHad a_o_wasLast x_o_wasAt x_o_wasNight x_o_hasImage x_o_keptLamps x_o_keptAt x_o_keptNight x_o_keptSpent a_o_keptHad a_o_keptTold a_o_keptLast a_o_keptOften x_o_bodies a_o_kind x_o_traces a_o_traced a_o_holds a_o_size a_o_elements a_o_shifted] (some (.int (b2i r0))) (fun _ : Unit => [O_Mo a_o x_o_code x_o_lamps x_o_at x_o_night x_o_spent x_o_rest x_o_shy a_o_had a_o_told a_o_barred a_o_cost a_o_last a_o_often x_o_hasBegun x_o_doneMany x_o_undoneMany a_o_changeOf a_o_changeAt a_o_before a_o_behind a_o_tape x_o_taped x_o_here x_o_fault x_o_open x_o_laid a_o_act a_o_with a_o_lineMany a_o_testEnd a_o_lineEnd a_o_facts a_o_pile x_o_hasLaw a_o_way a_o_bestWay x_o_bestMany a_o_wasHad a_o_wasLast x_o_wasAt x_o_wasNight x_o_hasImage x_o_keptLamps x_o_keptAt x_o_keptNight x_o_keptSpent a_o_keptHad a_o_keptTold a_o_keptLast a_o_keptOften x_o_bodies a_o_kind x_o_traces a_o_traced a_o_holds a_o_size a_o_elements a_o_shifted]) := by
  refine ct_intro "OneLampModel" rfl (by decide +kernel) (Nat.le_of_ble_eq_true rfl) [(0, .ref a_o), (1, .int p1)] rfl (fun _ C => ?_)
  unfold f_Mo_isPicture at hf
  refine g_iload_n (pc' := 1) C 1 d_Mo_isPicture_0 rfl rfl ?_
  refine g_iconst (pc' := 2) (v := 0) C d_Mo_isPicture_1 rfl rfl ?_
  refine g_aload_n (pc' := 3) C 0 d_Mo_isPicture_2 rfl rfl ?_
  replace hf := g_bi hf; obtain ⟨r1, hc2, hf⟩ := hf
  refine g_callV (pc' := 6) (st1 := [.int r1, .int 0, .int p1]) (ws1 := [O_Mo a_o x_o_code x_o_lamps x_o_at x_o_night x_o_spent x_o_rest x_o_shy a_o_had a_o_told a_o_barred a_o_cost a_o_last a_o_often x_o_hasBegun x_o_doneMany x_o_undoneMany a_o_changeOf a_o_changeAt a_o_before a_o_behind a_o_tape x_o_taped x_o_here x_o_fault x_o_open x_o_laid a_o_act a_o_with a_o_lineMany a_o_testEnd a_o_lineEnd a_o_facts a_o_pile x_o_hasLaw a_o_way a_o_bestWay x_o_bestMany a_o_wasHad a_o_wasLast x_o_wasAt x_o_wasNight x_o_hasImage x_o_keptLamps x_o_keptAt x_o_keptNight x_o_keptSpent a_o_keptHad a_o_keptTold a_o_keptLast a_o_keptOften x_o_bodies a_o_kind x_o_traces a_o_traced a_o_holds a_o_size a_o_elements a_o_shifted]) C (c_Mo_pictures (l := l) (D := D) (dA := dA) (a_o := a_o) (a_o_had := a_o_had) (a_o_told := a_o_told) (a_o_barred := a_o_barred) (a_o_cost := a_o_cost) (a_o_last := a_o_last) (a_o_often := a_o_often) (a_o_changeOf := a_o_changeOf) (a_o_changeAt := a_o_changeAt) (a_o_before := a_o_before) (a_o_behind := a_o_behind) (a_o_tape := a_o_tape) (a_o_act := a_o_act) (a_o_with := a_o_with) (a_o_lineMany := a_o_lineMany) (a_o_testEnd := a_o_testEnd) (a_o_lineEnd := a_o_lineEnd) (a_o_facts := a_o_facts) (a_o_pile := a_o_pile) (a_o_way := a_o_way) (a_o_bestWay := a_o_bestWay) (a_o_wasHad := a_o_wasHad) (a_o_wasLast := a_o_wasLast) (a_o_keptHad := a_o_keptHad) (a_o_keptTold := a_o_keptTold) (a_o_keptLast := a_o_keptLast) (a_o_keptOften := a_o_keptOften) (a_o_kind := a_o_kind) (a_o_traced := a_o_traced) (a_o_holds := a_o_holds) (a_o_size := a_o_size) (a_o_elements := a_o_elements) (a_o_shifted := a_o_shifted) (x_o_code := x_o_code) (x_o_at := x_o_at) (x_o_night := x_o_night) (x_o_spent := x_o_spent) (x_o_rest := x_o_rest) (x_o_shy := x_o_shy) (x_o_hasBegun := x_o_hasBegun) (x_o_doneMany := x_o_doneMany) (x_o_undoneMany := x_o_undoneMany) (x_o_taped := x_o_taped) (x_o_here := x_o_here) (x_o_fault := x_o_fault) (x_o_open := x_o_open) (x_o_laid := x_o_laid) (x_o_hasLaw := x_o_hasLaw) (x_o_bestMany := x_o_bestMany) (x_o_wasAt := x_o_wasAt) (x_o_wasNight := x_o_wasNight) (x_o_hasImage := x_o_hasImage) (x_o_keptLamps := x_o_keptLamps) (x_o_keptAt := x_o_keptAt) (x_o_keptNight := x_o_keptNight) (x_o_keptSpent := x_o_keptSpent) (x_o_bodies := x_o_bodies) (x_o_traces := x_o_traces)   hc2) yy_Mo_pictures kf_Mo rfl mw_5_95 d_Mo_isPicture_3 rfl [.int 0, .int p1] rfl rfl (Nat.le_of_ble_eq_true rfl) ⟨Nat.le_of_ble_eq_true rfl, Nat.le_of_ble_eq_true rfl⟩ rfl rfl (Nat.zero_le _) (Nat.zero_le _) 0 rfl [0] rfl (by decide +kernel) rfl (g_lay_sel _ _ _ _ [(0, true)] (by decide +kernel) rfl (by decide +kernel) rfl rfl) rfl ?_
  refine g_iconst (pc' := 7) (v := 1) C d_Mo_isPicture_6 rfl rfl ?_
  refine g_isub (pc' := 8) C d_Mo_isPicture_7 rfl ?_
  replace hf := g_bi hf; obtain ⟨r3, hc4, hf⟩ := hf
  refine g_callS (pc' := 11) (st1 := [.int (b2i r3)]) (ws1 := [O_Mo a_o x_o_code x_o_lamps x_o_at x_o_night x_o_spent x_o_rest x_o_shy a_o_had a_o_told a_o_barred a_o_cost a_o_last a_o_often x_o_hasBegun x_o_doneMany x_o_undoneMany a_o_changeOf a_o_changeAt a_o_before a_o_behind a_o_tape x_o_taped x_o_here x_o_fault x_o_open x_o_laid a_o_act a_o_with a_o_lineMany a_o_testEnd a_o_lineEnd a_o_facts a_o_pile x_o_hasLaw a_o_way a_o_bestWay x_o_bestMany a_o_wasHad a_o_wasLast x_o_wasAt x_o_wasNight x_o_hasImage x_o_keptLamps x_o_keptAt x_o_keptNight x_o_keptSpent a_o_keptHad a_o_keptTold a_o_keptLast a_o_keptOften x_o_bodies a_o_kind x_o_traces a_o_traced a_o_holds a_o_size a_o_elements a_o_shifted]) C (c_Mo_in (l := l) (D := D) (dA := dA)    hc4) yy_Mo_in mw_5_80 d_Mo_isPicture_8 rfl [] rfl rfl (Nat.le_of_ble_eq_true rfl) ⟨Nat.le_of_ble_eq_true rfl, Nat.le_of_ble_eq_true rfl⟩ rfl rfl (Nat.zero_le _) (Nat.zero_le _) [] rfl (by decide +kernel) rfl (g_lay_sel _ _ _ _ [(0, false)] (by decide +kernel) rfl (by decide +kernel) rfl rfl) rfl ?_
  replace hf := Option.some.inj hf; subst hf
  exact g_zret C d_Mo_isPicture_11 () rfl
def y_Mo_isLamp : MethodName := ⟨"OneLampModel", "isLamp", "(I)Z"⟩
theorem yy_Mo_isLamp : YV y_Mo_isLamp prog_13_method_7_code 2 (some .boolean) 1 := ⟨mw_6_6, mw_1_12, mw_6_5, tm_s (y := y_Mo_isLamp) (n := 58) (by decide +kernel), by decide +kernel, by decide +kernel, by decide +kernel⟩
theorem d_Mo_isLamp_0 : decode prog_13_method_7_code 0 = .ok (.iload_n 1, 1) := by decide +kernel
theorem d_Mo_isLamp_1 : decode prog_13_method_7_code 1 = .ok (.iconst 0, 1) := by decide +kernel
theorem d_Mo_isLamp_2 : decode prog_13_method_7_code 2 = .ok (.aload_n 0, 1) := by decide +kernel
theorem d_Mo_isLamp_3 : decode prog_13_method_7_code 3 = .ok (.getfield 7, 3) := by decide +kernel
theorem d_Mo_isLamp_6 : decode prog_13_method_7_code 6 = .ok (.iconst 1, 1) := by decide +kernel
theorem d_Mo_isLamp_7 : decode prog_13_method_7_code 7 = .ok (.isub, 1) := by decide +kernel
theorem d_Mo_isLamp_8 : decode prog_13_method_7_code 8 = .ok (.invokestatic 121, 3) := by decide +kernel
theorem d_Mo_isLamp_11 : decode prog_13_method_7_code 11 = .ok (.ireturn, 1) := by decide +kernel
def f_Mo_isLamp  (p1 : Int32) (x_o_lamps : Int32) : Option (Bool) :=
  (f_Mo_in  p1 (0 : Int32) (x_o_lamps - (1 : Int32))).bind fun r1 =>
  some (r1)
set_option maxRecDepth 20000 in
theorem c_Mo_isLamp {l : Launch} {D : va_G} {dA : Nat → ClassId} {a_o a_o_had a_o_told a_o_barred a_o_cost a_o_last a_o_often a_o_changeOf a_o_changeAt a_o_before a_o_behind a_o_tape a_o_act a_o_with a_o_lineMany a_o_testEnd a_o_lineEnd a_o_facts a_o_pile a_o_way a_o_bestWay a_o_wasHad a_o_wasLast a_o_keptHad a_o_keptTold a_o_keptLast a_o_keptOften a_o_kind a_o_traced a_o_holds a_o_size a_o_elements a_o_shifted : Nat} {x_o_code : Int32} {x_o_at : Int32} {x_o_night : Int32} {x_o_spent : Int32} {x_o_rest : Int32} {x_o_shy : Int32} {x_o_hasBegun : Bool} {x_o_doneMany : Int32} {x_o_undoneMany : Int32} {x_o_taped : Int32} {x_o_here : Int32} {x_o_fault : Int32} {x_o_open : Int32} {x_o_laid : Int32} {x_o_hasLaw : Bool} {x_o_bestMany : Int32} {x_o_wasAt : Int32} {x_o_wasNight : Int32} {x_o_hasImage : Bool} {x_o_keptLamps : Int32} {x_o_keptAt : Int32} {x_o_keptNight : Int32} {x_o_keptSpent : Int32} {x_o_bodies : Int32} {x_o_traces : Int32} {p1 : Int32} {x_o_lamps : Int32} {r0 : Bool}   (hf : f_Mo_isLamp  p1 x_o_lamps = some r0) : CT l y_Mo_isLamp prog_13_method_7_code 2 (some .boolean) { frames := 1, cells := 0, slots := 0, locals := 22 } D dA [.ref a_o, .int p1] [O_Mo a_o x_o_code x_o_lamps x_o_at x_o_night x_o_spent x_o_rest x_o_shy a_o_had a_o_told a_o_barred a_o_cost a_o_last a_o_often x_o_hasBegun x_o_doneMany x_o_undoneMany a_o_changeOf a_o_changeAt a_o_before a_o_behind a_o_tape x_o_taped x_o_here x_o_fault x_o_open x_o_laid a_o_act a_o_with a_o_lineMany a_o_testEnd a_o_lineEnd a_o_facts a_o_pile x_o_hasLaw a_o_way a_o_bestWay x_o_bestMany a_o_wasHad a_o_wasLast x_o_wasAt x_o_wasNight x_o_hasImage x_o_keptLamps x_o_keptAt x_o_keptNight x_o_keptSpent a_o_keptHad a_o_keptTold a_o_keptLast a_o_keptOften x_o_bodies a_o_kind x_o_traces a_o_traced a_o_holds a_o_size a_o_elements a_o_shifted] (some (.int (b2i r0))) (fun _ : Unit => [O_Mo a_o x_o_code x_o_lamps x_o_at x_o_night x_o_spent x_o_rest x_o_shy a_o_had a_o_told a_o_barred a_o_cost a_o_last a_o_often x_o_hasBegun x_o_doneMany x_o_undoneMany a_o_changeOf a_o_changeAt a_o_before a_o_behind a_o_tape x_o_taped x_o_here x_o_fault x_o_open x_o_laid a_o_act a_o_with a_o_lineMany a_o_testEnd a_o_lineEnd a_o_facts a_o_pile x_o_hasLaw a_o_way a_o_bestWay x_o_bestMany a_o_wasHad a_o_wasLast x_o_wasAt x_o_wasNight x_o_hasImage x_o_keptLamps x_o_keptAt x_o_keptNight x_o_keptSpent a_o_keptHad a_o_keptTold a_o_keptLast a_o_keptOften x_o_bodies a_o_kind x_o_traces a_o_traced a_o_holds a_o_size a_o_elements a_o_shifted]) := by
  refine ct_intro "OneLampModel" rfl (by decide +kernel) (Nat.le_of_ble_eq_true rfl) [(0, .ref a_o), (1, .int p1)] rfl (fun _ C => ?_)
  unfold f_Mo_isLamp at hf
  refine g_iload_n (pc' := 1) C 1 d_Mo_isLamp_0 rfl rfl ?_
  refine g_iconst (pc' := 2) (v := 0) C d_Mo_isLamp_1 rfl rfl ?_
  refine g_aload_n (pc' := 3) C 0 d_Mo_isLamp_2 rfl rfl ?_
  refine g_get (pc' := 6) C kf_Mo 1 mw_4_139 d_Mo_isLamp_3 rfl 0 rfl (by decide) rfl ?_
  refine g_iconst (pc' := 7) (v := 1) C d_Mo_isLamp_6 rfl rfl ?_
  refine g_isub (pc' := 8) C d_Mo_isLamp_7 rfl ?_
  replace hf := g_bi hf; obtain ⟨r1, hc2, hf⟩ := hf
  refine g_callS (pc' := 11) (st1 := [.int (b2i r1)]) (ws1 := [O_Mo a_o x_o_code x_o_lamps x_o_at x_o_night x_o_spent x_o_rest x_o_shy a_o_had a_o_told a_o_barred a_o_cost a_o_last a_o_often x_o_hasBegun x_o_doneMany x_o_undoneMany a_o_changeOf a_o_changeAt a_o_before a_o_behind a_o_tape x_o_taped x_o_here x_o_fault x_o_open x_o_laid a_o_act a_o_with a_o_lineMany a_o_testEnd a_o_lineEnd a_o_facts a_o_pile x_o_hasLaw a_o_way a_o_bestWay x_o_bestMany a_o_wasHad a_o_wasLast x_o_wasAt x_o_wasNight x_o_hasImage x_o_keptLamps x_o_keptAt x_o_keptNight x_o_keptSpent a_o_keptHad a_o_keptTold a_o_keptLast a_o_keptOften x_o_bodies a_o_kind x_o_traces a_o_traced a_o_holds a_o_size a_o_elements a_o_shifted]) C (c_Mo_in (l := l) (D := D) (dA := dA)    hc2) yy_Mo_in mw_5_80 d_Mo_isLamp_8 rfl [] rfl rfl (Nat.le_of_ble_eq_true rfl) ⟨Nat.le_of_ble_eq_true rfl, Nat.le_of_ble_eq_true rfl⟩ rfl rfl (Nat.zero_le _) (Nat.zero_le _) [] rfl (by decide +kernel) rfl (g_lay_sel _ _ _ _ [(0, false)] (by decide +kernel) rfl (by decide +kernel) rfl rfl) rfl ?_
  replace hf := Option.some.inj hf; subst hf
  exact g_zret C d_Mo_isLamp_11 () rfl
def y_Mo_beginAt : MethodName := ⟨"OneLampModel", "beginAt", "(I)V"⟩
theorem yy_Mo_beginAt : YV y_Mo_beginAt prog_13_method_8_code 3 none 1 := ⟨mw_5_86, mw_1_12, mw_5_85, tm_s (y := y_Mo_beginAt) (n := 58) (by decide +kernel), by decide +kernel, by decide +kernel, by decide +kernel⟩
theorem d_Mo_beginAt_0 : decode prog_13_method_8_code 0 = .ok (.aload_n 0, 1) := by decide +kernel
theorem d_Mo_beginAt_1 : decode prog_13_method_8_code 1 = .ok (.iload_n 1, 1) := by decide +kernel
theorem d_Mo_beginAt_2 : decode prog_13_method_8_code 2 = .ok (.putfield 125, 3) := by decide +kernel
theorem d_Mo_beginAt_5 : decode prog_13_method_8_code 5 = .ok (.aload_n 0, 1) := by decide +kernel
theorem d_Mo_beginAt_6 : decode prog_13_method_8_code 6 = .ok (.iconst 0, 1) := by decide +kernel
theorem d_Mo_beginAt_7 : decode prog_13_method_8_code 7 = .ok (.putfield 128, 3) := by decide +kernel
theorem d_Mo_beginAt_10 : decode prog_13_method_8_code 10 = .ok (.aload_n 0, 1) := by decide +kernel
theorem d_Mo_beginAt_11 : decode prog_13_method_8_code 11 = .ok (.iconst 0, 1) := by decide +kernel
theorem d_Mo_beginAt_12 : decode prog_13_method_8_code 12 = .ok (.putfield 131, 3) := by decide +kernel
theorem d_Mo_beginAt_15 : decode prog_13_method_8_code 15 = .ok (.iconst 0, 1) := by decide +kernel
theorem d_Mo_beginAt_16 : decode prog_13_method_8_code 16 = .ok (.istore_n 2, 1) := by decide +kernel
theorem d_Mo_beginAt_17 : decode prog_13_method_8_code 17 = .ok (.iload_n 2, 1) := by decide +kernel
theorem d_Mo_beginAt_18 : decode prog_13_method_8_code 18 = .ok (.sipush 1024, 3) := by decide +kernel
theorem d_Mo_beginAt_21 : decode prog_13_method_8_code 21 = .ok (.if_icmp .ge 25, 3) := by decide +kernel
theorem d_Mo_beginAt_24 : decode prog_13_method_8_code 24 = .ok (.aload_n 0, 1) := by decide +kernel
theorem d_Mo_beginAt_25 : decode prog_13_method_8_code 25 = .ok (.getfield 13, 3) := by decide +kernel
theorem d_Mo_beginAt_28 : decode prog_13_method_8_code 28 = .ok (.iload_n 2, 1) := by decide +kernel
theorem d_Mo_beginAt_29 : decode prog_13_method_8_code 29 = .ok (.iload_n 2, 1) := by decide +kernel
theorem d_Mo_beginAt_30 : decode prog_13_method_8_code 30 = .ok (.iload_n 1, 1) := by decide +kernel
theorem d_Mo_beginAt_31 : decode prog_13_method_8_code 31 = .ok (.if_icmp .ne 7, 3) := by decide +kernel
theorem d_Mo_beginAt_34 : decode prog_13_method_8_code 34 = .ok (.iconst 1, 1) := by decide +kernel
theorem d_Mo_beginAt_35 : decode prog_13_method_8_code 35 = .ok (.goto 4, 3) := by decide +kernel
theorem d_Mo_beginAt_38 : decode prog_13_method_8_code 38 = .ok (.iconst 0, 1) := by decide +kernel
theorem d_Mo_beginAt_39 : decode prog_13_method_8_code 39 = .ok (.bastore, 1) := by decide +kernel
theorem d_Mo_beginAt_40 : decode prog_13_method_8_code 40 = .ok (.iinc 2 1, 3) := by decide +kernel
theorem d_Mo_beginAt_43 : decode prog_13_method_8_code 43 = .ok (.goto (-26), 3) := by decide +kernel
theorem d_Mo_beginAt_46 : decode prog_13_method_8_code 46 = .ok (.iconst 0, 1) := by decide +kernel
theorem d_Mo_beginAt_47 : decode prog_13_method_8_code 47 = .ok (.istore_n 2, 1) := by decide +kernel
theorem d_Mo_beginAt_48 : decode prog_13_method_8_code 48 = .ok (.iload_n 2, 1) := by decide +kernel
theorem d_Mo_beginAt_49 : decode prog_13_method_8_code 49 = .ok (.bipush 10, 2) := by decide +kernel
theorem d_Mo_beginAt_51 : decode prog_13_method_8_code 51 = .ok (.if_icmp .ge 24, 3) := by decide +kernel
theorem d_Mo_beginAt_54 : decode prog_13_method_8_code 54 = .ok (.aload_n 0, 1) := by decide +kernel
theorem d_Mo_beginAt_55 : decode prog_13_method_8_code 55 = .ok (.getfield 27, 3) := by decide +kernel
theorem d_Mo_beginAt_58 : decode prog_13_method_8_code 58 = .ok (.iload_n 2, 1) := by decide +kernel
theorem d_Mo_beginAt_59 : decode prog_13_method_8_code 59 = .ok (.bipush (-2), 2) := by decide +kernel
theorem d_Mo_beginAt_61 : decode prog_13_method_8_code 61 = .ok (.iastore, 1) := by decide +kernel
theorem d_Mo_beginAt_62 : decode prog_13_method_8_code 62 = .ok (.aload_n 0, 1) := by decide +kernel
theorem d_Mo_beginAt_63 : decode prog_13_method_8_code 63 = .ok (.getfield 30, 3) := by decide +kernel
theorem d_Mo_beginAt_66 : decode prog_13_method_8_code 66 = .ok (.iload_n 2, 1) := by decide +kernel
theorem d_Mo_beginAt_67 : decode prog_13_method_8_code 67 = .ok (.iconst 0, 1) := by decide +kernel
theorem d_Mo_beginAt_68 : decode prog_13_method_8_code 68 = .ok (.iastore, 1) := by decide +kernel
theorem d_Mo_beginAt_69 : decode prog_13_method_8_code 69 = .ok (.iinc 2 1, 3) := by decide +kernel
theorem d_Mo_beginAt_72 : decode prog_13_method_8_code 72 = .ok (.goto (-24), 3) := by decide +kernel
theorem d_Mo_beginAt_75 : decode prog_13_method_8_code 75 = .ok (.aload_n 0, 1) := by decide +kernel
theorem d_Mo_beginAt_76 : decode prog_13_method_8_code 76 = .ok (.iconst 1, 1) := by decide +kernel
theorem d_Mo_beginAt_77 : decode prog_13_method_8_code 77 = .ok (.putfield 134, 3) := by decide +kernel
theorem d_Mo_beginAt_80 : decode prog_13_method_8_code 80 = .ok (.return_, 1) := by decide +kernel
def f_Mo_beginAt_L39  (k17 : Int32 → Int32 → Int32 → Int32 → Int32 → Bool → (Nat → Int32) → (Nat → Int32) → (Nat → Int32) → Option (Int32 × Int32 × Int32 × Bool × (Nat → Int32) × (Nat → Int32) × (Nat → Int32))) (v1 : Int32) (v2 : Int32) (s0 : Bool) (s1 : Int32) (x_o_at : Int32) (x_o_night : Int32) (x_o_spent : Int32) (x_o_hasBegun : Bool) (x_o_had : Nat → Int32) (x_o_last : Nat → Int32) (x_o_often : Nat → Int32) : Option (Int32 × Int32 × Int32 × Bool × (Nat → Int32) × (Nat → Int32) × (Nat → Int32)) :=
  if s1 < 0 ∨ 1024 ≤ Int32.toNatClampNeg s1 then none else
  k17 v1 (v2 + 1) x_o_at x_o_night x_o_spent x_o_hasBegun (upd x_o_had (Int32.toNatClampNeg s1) (vp_nar .boolean (b2i s0))) x_o_last x_o_often
set_option maxRecDepth 20000 in
theorem w_Mo_beginAt_L39 {p : Program} {l : Launch} {e : Env} {s : State} {m : MethodId} {args : Array Value} {below : List Frame} {meth : Method} {c : Code} {D : va_G} {dA : Nat → ClassId} {A : Nat → Prop} (C : GC p s m args meth c prog_13_method_8_code 3 "OneLampModel" none D dA A) {a_o a_o_had a_o_told a_o_barred a_o_cost a_o_last a_o_often a_o_changeOf a_o_changeAt a_o_before a_o_behind a_o_tape a_o_act a_o_with a_o_lineMany a_o_testEnd a_o_lineEnd a_o_facts a_o_pile a_o_way a_o_bestWay a_o_wasHad a_o_wasLast a_o_keptHad a_o_keptTold a_o_keptLast a_o_keptOften a_o_kind a_o_traced a_o_holds a_o_size a_o_elements a_o_shifted : Nat} {x_o_code : Int32} {x_o_lamps : Int32} {x_o_rest : Int32} {x_o_shy : Int32} {x_o_doneMany : Int32} {x_o_undoneMany : Int32} {x_o_taped : Int32} {x_o_here : Int32} {x_o_fault : Int32} {x_o_open : Int32} {x_o_laid : Int32} {x_o_hasLaw : Bool} {x_o_bestMany : Int32} {x_o_wasAt : Int32} {x_o_wasNight : Int32} {x_o_hasImage : Bool} {x_o_keptLamps : Int32} {x_o_keptAt : Int32} {x_o_keptNight : Int32} {x_o_keptSpent : Int32} {x_o_bodies : Int32} {x_o_traces : Int32} {o_x_o_at : Int32} {o_x_o_night : Int32} {o_x_o_spent : Int32} {o_x_o_hasBegun : Bool} {o_x_o_had : Nat → Int32} {o_x_o_last : Nat → Int32} {o_x_o_often : Nat → Int32}   (k17 : Int32 → Int32 → Int32 → Int32 → Int32 → Bool → (Nat → Int32) → (Nat → Int32) → (Nat → Int32) → Option (Int32 × Int32 × Int32 × Bool × (Nat → Int32) × (Nat → Int32) × (Nat → Int32))) (hk17 : ∀ (v1 : Int32) (v2 : Int32) (x_o_at : Int32) (x_o_night : Int32) (x_o_spent : Int32) (x_o_hasBegun : Bool) (x_o_had : Nat → Int32) (x_o_last : Nat → Int32) (x_o_often : Nat → Int32), k17 v1 v2 x_o_at x_o_night x_o_spent x_o_hasBegun x_o_had x_o_last x_o_often = some (o_x_o_at, o_x_o_night, o_x_o_spent, o_x_o_hasBegun, o_x_o_had, o_x_o_last, o_x_o_often) → GG p l e { frames := 0, cells := 0, slots := 0, locals := 0 } s m args below meth c 3 D A 0 0 (MQ below (cQ D A none (fun _ : Unit => [O_Mo a_o x_o_code x_o_lamps o_x_o_at o_x_o_night o_x_o_spent x_o_rest x_o_shy a_o_had a_o_told a_o_barred a_o_cost a_o_last a_o_often o_x_o_hasBegun x_o_doneMany x_o_undoneMany a_o_changeOf a_o_changeAt a_o_before a_o_behind a_o_tape x_o_taped x_o_here x_o_fault x_o_open x_o_laid a_o_act a_o_with a_o_lineMany a_o_testEnd a_o_lineEnd a_o_facts a_o_pile x_o_hasLaw a_o_way a_o_bestWay x_o_bestMany a_o_wasHad a_o_wasLast x_o_wasAt x_o_wasNight x_o_hasImage x_o_keptLamps x_o_keptAt x_o_keptNight x_o_keptSpent a_o_keptHad a_o_keptTold a_o_keptLast a_o_keptOften x_o_bodies a_o_kind x_o_traces a_o_traced a_o_holds a_o_size a_o_elements a_o_shifted, A_Z dA a_o_had 1024 o_x_o_had, A_I dA a_o_last 10 o_x_o_last, A_I dA a_o_often 10 o_x_o_often])) args s 0 0 A) 17 [(0, .ref a_o), (1, .int v1), (2, .int v2)] [] [O_Mo a_o x_o_code x_o_lamps x_o_at x_o_night x_o_spent x_o_rest x_o_shy a_o_had a_o_told a_o_barred a_o_cost a_o_last a_o_often x_o_hasBegun x_o_doneMany x_o_undoneMany a_o_changeOf a_o_changeAt a_o_before a_o_behind a_o_tape x_o_taped x_o_here x_o_fault x_o_open x_o_laid a_o_act a_o_with a_o_lineMany a_o_testEnd a_o_lineEnd a_o_facts a_o_pile x_o_hasLaw a_o_way a_o_bestWay x_o_bestMany a_o_wasHad a_o_wasLast x_o_wasAt x_o_wasNight x_o_hasImage x_o_keptLamps x_o_keptAt x_o_keptNight x_o_keptSpent a_o_keptHad a_o_keptTold a_o_keptLast a_o_keptOften x_o_bodies a_o_kind x_o_traces a_o_traced a_o_holds a_o_size a_o_elements a_o_shifted, A_Z dA a_o_had 1024 x_o_had, A_I dA a_o_last 10 x_o_last, A_I dA a_o_often 10 x_o_often]) (v1 : Int32) (v2 : Int32) (s0 : Bool) (s1 : Int32) (x_o_at : Int32) (x_o_night : Int32) (x_o_spent : Int32) (x_o_hasBegun : Bool) (x_o_had : Nat → Int32) (x_o_last : Nat → Int32) (x_o_often : Nat → Int32) (hf : f_Mo_beginAt_L39  k17 v1 v2 s0 s1 x_o_at x_o_night x_o_spent x_o_hasBegun x_o_had x_o_last x_o_often = some (o_x_o_at, o_x_o_night, o_x_o_spent, o_x_o_hasBegun, o_x_o_had, o_x_o_last, o_x_o_often)) : GG p l e { frames := 0, cells := 0, slots := 0, locals := 0 } s m args below meth c 3 D A 0 0 (MQ below (cQ D A none (fun _ : Unit => [O_Mo a_o x_o_code x_o_lamps o_x_o_at o_x_o_night o_x_o_spent x_o_rest x_o_shy a_o_had a_o_told a_o_barred a_o_cost a_o_last a_o_often o_x_o_hasBegun x_o_doneMany x_o_undoneMany a_o_changeOf a_o_changeAt a_o_before a_o_behind a_o_tape x_o_taped x_o_here x_o_fault x_o_open x_o_laid a_o_act a_o_with a_o_lineMany a_o_testEnd a_o_lineEnd a_o_facts a_o_pile x_o_hasLaw a_o_way a_o_bestWay x_o_bestMany a_o_wasHad a_o_wasLast x_o_wasAt x_o_wasNight x_o_hasImage x_o_keptLamps x_o_keptAt x_o_keptNight x_o_keptSpent a_o_keptHad a_o_keptTold a_o_keptLast a_o_keptOften x_o_bodies a_o_kind x_o_traces a_o_traced a_o_holds a_o_size a_o_elements a_o_shifted, A_Z dA a_o_had 1024 o_x_o_had, A_I dA a_o_last 10 o_x_o_last, A_I dA a_o_often 10 o_x_o_often])) args s 0 0 A) 39 [(0, .ref a_o), (1, .int v1), (2, .int v2)] [.int (b2i s0), .int s1, .ref a_o_had] [O_Mo a_o x_o_code x_o_lamps x_o_at x_o_night x_o_spent x_o_rest x_o_shy a_o_had a_o_told a_o_barred a_o_cost a_o_last a_o_often x_o_hasBegun x_o_doneMany x_o_undoneMany a_o_changeOf a_o_changeAt a_o_before a_o_behind a_o_tape x_o_taped x_o_here x_o_fault x_o_open x_o_laid a_o_act a_o_with a_o_lineMany a_o_testEnd a_o_lineEnd a_o_facts a_o_pile x_o_hasLaw a_o_way a_o_bestWay x_o_bestMany a_o_wasHad a_o_wasLast x_o_wasAt x_o_wasNight x_o_hasImage x_o_keptLamps x_o_keptAt x_o_keptNight x_o_keptSpent a_o_keptHad a_o_keptTold a_o_keptLast a_o_keptOften x_o_bodies a_o_kind x_o_traces a_o_traced a_o_holds a_o_size a_o_elements a_o_shifted, A_Z dA a_o_had 1024 x_o_had, A_I dA a_o_last 10 x_o_last, A_I dA a_o_often 10 x_o_often] := by
  unfold f_Mo_beginAt_L39 at hf
  have hb := g_ck hf
  replace hf := g_in hb hf
  refine g_zast (pc' := 40) (ws' := [O_Mo a_o x_o_code x_o_lamps x_o_at x_o_night x_o_spent x_o_rest x_o_shy a_o_had a_o_told a_o_barred a_o_cost a_o_last a_o_often x_o_hasBegun x_o_doneMany x_o_undoneMany a_o_changeOf a_o_changeAt a_o_before a_o_behind a_o_tape x_o_taped x_o_here x_o_fault x_o_open x_o_laid a_o_act a_o_with a_o_lineMany a_o_testEnd a_o_lineEnd a_o_facts a_o_pile x_o_hasLaw a_o_way a_o_bestWay x_o_bestMany a_o_wasHad a_o_wasLast x_o_wasAt x_o_wasNight x_o_hasImage x_o_keptLamps x_o_keptAt x_o_keptNight x_o_keptSpent a_o_keptHad a_o_keptTold a_o_keptLast a_o_keptOften x_o_bodies a_o_kind x_o_traces a_o_traced a_o_holds a_o_size a_o_elements a_o_shifted, A_Z dA a_o_had 1024 (upd x_o_had (Int32.toNatClampNeg s1) (vp_nar .boolean (b2i s0))), A_I dA a_o_last 10 x_o_last, A_I dA a_o_often 10 x_o_often]) C d_Mo_beginAt_39 rfl 1 rfl hb rfl ?_
  refine g_iinc (pc' := 43) (j := 2) (v := (v2 + 1)) (lv' := [(2, .int (v2 + 1)), (0, .ref a_o), (1, .int v1)]) C d_Mo_beginAt_40 rfl rfl rfl (by decide) rfl ?_
  refine g_goto (tgt := 17) C d_Mo_beginAt_43 rfl ?_
  refine g_lv (lv' := [(0, .ref a_o), (1, .int v1), (2, .int (v2 + 1))]) [1, 2, 0] rfl ?_
  exact hk17 v1 (v2 + 1) x_o_at x_o_night x_o_spent x_o_hasBegun (upd x_o_had (Int32.toNatClampNeg s1) (vp_nar .boolean (b2i s0))) x_o_last x_o_often hf
def f_Mo_beginAt_L48   : Nat → Int32 → Int32 → Int32 → Int32 → Bool → (Nat → Int32) → (Nat → Int32) → (Nat → Int32) → Option (Int32 × Int32 × Int32 × Bool × (Nat → Int32) × (Nat → Int32) × (Nat → Int32))
  | 0, _, _, _, _, _, _, _, _ => none
  | n + 1, v2, x_o_at, x_o_night, x_o_spent, x_o_hasBegun, x_o_had, x_o_last, x_o_often =>
    if (10 : Int32) ≤ v2 then
      (some (x_o_at, x_o_night, x_o_spent, true, x_o_had, x_o_last, x_o_often))
    else
      (if v2 < 0 ∨ 10 ≤ Int32.toNatClampNeg v2 then none else
      if v2 < 0 ∨ 10 ≤ Int32.toNatClampNeg v2 then none else
      f_Mo_beginAt_L48  n (v2 + 1) x_o_at x_o_night x_o_spent x_o_hasBegun x_o_had (upd x_o_last (Int32.toNatClampNeg v2) (-2 : Int32)) (upd x_o_often (Int32.toNatClampNeg v2) (0 : Int32)))
set_option maxRecDepth 20000 in
theorem w_Mo_beginAt_L48 {p : Program} {l : Launch} {e : Env} {s : State} {m : MethodId} {args : Array Value} {below : List Frame} {meth : Method} {c : Code} {D : va_G} {dA : Nat → ClassId} {A : Nat → Prop} (C : GC p s m args meth c prog_13_method_8_code 3 "OneLampModel" none D dA A) {a_o a_o_had a_o_told a_o_barred a_o_cost a_o_last a_o_often a_o_changeOf a_o_changeAt a_o_before a_o_behind a_o_tape a_o_act a_o_with a_o_lineMany a_o_testEnd a_o_lineEnd a_o_facts a_o_pile a_o_way a_o_bestWay a_o_wasHad a_o_wasLast a_o_keptHad a_o_keptTold a_o_keptLast a_o_keptOften a_o_kind a_o_traced a_o_holds a_o_size a_o_elements a_o_shifted : Nat} {x_o_code : Int32} {x_o_lamps : Int32} {x_o_rest : Int32} {x_o_shy : Int32} {x_o_doneMany : Int32} {x_o_undoneMany : Int32} {x_o_taped : Int32} {x_o_here : Int32} {x_o_fault : Int32} {x_o_open : Int32} {x_o_laid : Int32} {x_o_hasLaw : Bool} {x_o_bestMany : Int32} {x_o_wasAt : Int32} {x_o_wasNight : Int32} {x_o_hasImage : Bool} {x_o_keptLamps : Int32} {x_o_keptAt : Int32} {x_o_keptNight : Int32} {x_o_keptSpent : Int32} {x_o_bodies : Int32} {x_o_traces : Int32} {o_x_o_at : Int32} {o_x_o_night : Int32} {o_x_o_spent : Int32} {o_x_o_hasBegun : Bool} {o_x_o_had : Nat → Int32} {o_x_o_last : Nat → Int32} {o_x_o_often : Nat → Int32}    : ∀ (n : Nat) (v2 : Int32) (x_o_at : Int32) (x_o_night : Int32) (x_o_spent : Int32) (x_o_hasBegun : Bool) (x_o_had : Nat → Int32) (x_o_last : Nat → Int32) (x_o_often : Nat → Int32), f_Mo_beginAt_L48   n v2 x_o_at x_o_night x_o_spent x_o_hasBegun x_o_had x_o_last x_o_often = some (o_x_o_at, o_x_o_night, o_x_o_spent, o_x_o_hasBegun, o_x_o_had, o_x_o_last, o_x_o_often) → GG p l e { frames := 0, cells := 0, slots := 0, locals := 0 } s m args below meth c 3 D A 0 0 (MQ below (cQ D A none (fun _ : Unit => [O_Mo a_o x_o_code x_o_lamps o_x_o_at o_x_o_night o_x_o_spent x_o_rest x_o_shy a_o_had a_o_told a_o_barred a_o_cost a_o_last a_o_often o_x_o_hasBegun x_o_doneMany x_o_undoneMany a_o_changeOf a_o_changeAt a_o_before a_o_behind a_o_tape x_o_taped x_o_here x_o_fault x_o_open x_o_laid a_o_act a_o_with a_o_lineMany a_o_testEnd a_o_lineEnd a_o_facts a_o_pile x_o_hasLaw a_o_way a_o_bestWay x_o_bestMany a_o_wasHad a_o_wasLast x_o_wasAt x_o_wasNight x_o_hasImage x_o_keptLamps x_o_keptAt x_o_keptNight x_o_keptSpent a_o_keptHad a_o_keptTold a_o_keptLast a_o_keptOften x_o_bodies a_o_kind x_o_traces a_o_traced a_o_holds a_o_size a_o_elements a_o_shifted, A_Z dA a_o_had 1024 o_x_o_had, A_I dA a_o_last 10 o_x_o_last, A_I dA a_o_often 10 o_x_o_often])) args s 0 0 A) 48 [(0, .ref a_o), (2, .int v2)] [] [O_Mo a_o x_o_code x_o_lamps x_o_at x_o_night x_o_spent x_o_rest x_o_shy a_o_had a_o_told a_o_barred a_o_cost a_o_last a_o_often x_o_hasBegun x_o_doneMany x_o_undoneMany a_o_changeOf a_o_changeAt a_o_before a_o_behind a_o_tape x_o_taped x_o_here x_o_fault x_o_open x_o_laid a_o_act a_o_with a_o_lineMany a_o_testEnd a_o_lineEnd a_o_facts a_o_pile x_o_hasLaw a_o_way a_o_bestWay x_o_bestMany a_o_wasHad a_o_wasLast x_o_wasAt x_o_wasNight x_o_hasImage x_o_keptLamps x_o_keptAt x_o_keptNight x_o_keptSpent a_o_keptHad a_o_keptTold a_o_keptLast a_o_keptOften x_o_bodies a_o_kind x_o_traces a_o_traced a_o_holds a_o_size a_o_elements a_o_shifted, A_Z dA a_o_had 1024 x_o_had, A_I dA a_o_last 10 x_o_last, A_I dA a_o_often 10 x_o_often] := by
  intro n
  induction n with
  | zero =>
    intro v2 x_o_at x_o_night x_o_spent x_o_hasBegun x_o_had x_o_last x_o_often hf
    cases hf
  | succ n ih =>
    intro v2 x_o_at x_o_night x_o_spent x_o_hasBegun x_o_had x_o_last x_o_often hf
    unfold f_Mo_beginAt_L48 at hf
    refine g_iload_n (pc' := 49) C 1 d_Mo_beginAt_48 rfl rfl ?_
    refine g_bipush (pc' := 51) (v := 10) C d_Mo_beginAt_49 rfl rfl ?_
    refine g_icmp_ge (pc' := 54) (tgt := 75) C d_Mo_beginAt_51 rfl rfl (fun h => ?_) (fun h => ?_)
    · replace hf := g_ip h hf
      refine g_aload_n (pc' := 76) C 0 d_Mo_beginAt_75 rfl rfl ?_
      refine g_iconst (pc' := 77) (v := 1) C d_Mo_beginAt_76 rfl rfl ?_
      refine g_put (pc' := 80) (ws' := [O_Mo a_o x_o_code x_o_lamps x_o_at x_o_night x_o_spent x_o_rest x_o_shy a_o_had a_o_told a_o_barred a_o_cost a_o_last a_o_often true x_o_doneMany x_o_undoneMany a_o_changeOf a_o_changeAt a_o_before a_o_behind a_o_tape x_o_taped x_o_here x_o_fault x_o_open x_o_laid a_o_act a_o_with a_o_lineMany a_o_testEnd a_o_lineEnd a_o_facts a_o_pile x_o_hasLaw a_o_way a_o_bestWay x_o_bestMany a_o_wasHad a_o_wasLast x_o_wasAt x_o_wasNight x_o_hasImage x_o_keptLamps x_o_keptAt x_o_keptNight x_o_keptSpent a_o_keptHad a_o_keptTold a_o_keptLast a_o_keptOften x_o_bodies a_o_kind x_o_traces a_o_traced a_o_holds a_o_size a_o_elements a_o_shifted, A_Z dA a_o_had 1024 x_o_had, A_I dA a_o_last 10 x_o_last, A_I dA a_o_often 10 x_o_often]) C kf_Mo 13 mw_4_151 d_Mo_beginAt_77 rfl 0 rfl (by decide) rfl rfl rfl (Nat.le_of_ble_eq_true rfl) rfl ?_
      replace hf := g_o2 hf; obtain ⟨h1, hf⟩ := hf; subst h1
      replace hf := g_o2 hf; obtain ⟨h1, hf⟩ := hf; subst h1
      replace hf := g_o2 hf; obtain ⟨h1, hf⟩ := hf; subst h1
      replace hf := g_o2 hf; obtain ⟨h1, hf⟩ := hf; subst h1
      replace hf := g_o2 hf; obtain ⟨h1, hf⟩ := hf; subst h1
      replace hf := g_o2 hf; obtain ⟨h1, hf⟩ := hf; subst h1
      replace hf := Option.some.inj hf; subst hf
      exact g_vret C d_Mo_beginAt_80 () rfl
    · replace hf := g_in h hf
      refine g_aload_n (pc' := 55) C 0 d_Mo_beginAt_54 rfl rfl ?_
      refine g_get (pc' := 58) C kf_Mo 11 mw_4_149 d_Mo_beginAt_55 rfl 0 rfl (by decide) rfl ?_
      refine g_iload_n (pc' := 59) C 1 d_Mo_beginAt_58 rfl rfl ?_
      refine g_bipush (pc' := 61) (v := (-2)) C d_Mo_beginAt_59 rfl rfl ?_
      have hb := g_ck hf
      replace hf := g_in hb hf
      refine g_iast (pc' := 62) (ws' := [O_Mo a_o x_o_code x_o_lamps x_o_at x_o_night x_o_spent x_o_rest x_o_shy a_o_had a_o_told a_o_barred a_o_cost a_o_last a_o_often x_o_hasBegun x_o_doneMany x_o_undoneMany a_o_changeOf a_o_changeAt a_o_before a_o_behind a_o_tape x_o_taped x_o_here x_o_fault x_o_open x_o_laid a_o_act a_o_with a_o_lineMany a_o_testEnd a_o_lineEnd a_o_facts a_o_pile x_o_hasLaw a_o_way a_o_bestWay x_o_bestMany a_o_wasHad a_o_wasLast x_o_wasAt x_o_wasNight x_o_hasImage x_o_keptLamps x_o_keptAt x_o_keptNight x_o_keptSpent a_o_keptHad a_o_keptTold a_o_keptLast a_o_keptOften x_o_bodies a_o_kind x_o_traces a_o_traced a_o_holds a_o_size a_o_elements a_o_shifted, A_Z dA a_o_had 1024 x_o_had, A_I dA a_o_last 10 (upd x_o_last (Int32.toNatClampNeg v2) (-2 : Int32)), A_I dA a_o_often 10 x_o_often]) C d_Mo_beginAt_61 rfl 2 rfl hb rfl ?_
      refine g_aload_n (pc' := 63) C 0 d_Mo_beginAt_62 rfl rfl ?_
      refine g_get (pc' := 66) C kf_Mo 12 mw_4_150 d_Mo_beginAt_63 rfl 0 rfl (by decide) rfl ?_
      refine g_iload_n (pc' := 67) C 1 d_Mo_beginAt_66 rfl rfl ?_
      refine g_iconst (pc' := 68) (v := 0) C d_Mo_beginAt_67 rfl rfl ?_
      have hb := g_ck hf
      replace hf := g_in hb hf
      refine g_iast (pc' := 69) (ws' := [O_Mo a_o x_o_code x_o_lamps x_o_at x_o_night x_o_spent x_o_rest x_o_shy a_o_had a_o_told a_o_barred a_o_cost a_o_last a_o_often x_o_hasBegun x_o_doneMany x_o_undoneMany a_o_changeOf a_o_changeAt a_o_before a_o_behind a_o_tape x_o_taped x_o_here x_o_fault x_o_open x_o_laid a_o_act a_o_with a_o_lineMany a_o_testEnd a_o_lineEnd a_o_facts a_o_pile x_o_hasLaw a_o_way a_o_bestWay x_o_bestMany a_o_wasHad a_o_wasLast x_o_wasAt x_o_wasNight x_o_hasImage x_o_keptLamps x_o_keptAt x_o_keptNight x_o_keptSpent a_o_keptHad a_o_keptTold a_o_keptLast a_o_keptOften x_o_bodies a_o_kind x_o_traces a_o_traced a_o_holds a_o_size a_o_elements a_o_shifted, A_Z dA a_o_had 1024 x_o_had, A_I dA a_o_last 10 (upd x_o_last (Int32.toNatClampNeg v2) (-2 : Int32)), A_I dA a_o_often 10 (upd x_o_often (Int32.toNatClampNeg v2) (0 : Int32))]) C d_Mo_beginAt_68 rfl 3 rfl hb rfl ?_
      refine g_iinc (pc' := 72) (j := 1) (v := (v2 + 1)) (lv' := [(2, .int (v2 + 1)), (0, .ref a_o)]) C d_Mo_beginAt_69 rfl rfl rfl (by decide) rfl ?_
      refine g_goto (tgt := 48) C d_Mo_beginAt_72 rfl ?_
      refine g_lv (lv' := [(0, .ref a_o), (2, .int (v2 + 1))]) [1, 0] rfl ?_
      exact ih (v2 + 1) x_o_at x_o_night x_o_spent x_o_hasBegun x_o_had (upd x_o_last (Int32.toNatClampNeg v2) (-2 : Int32)) (upd x_o_often (Int32.toNatClampNeg v2) (0 : Int32)) hf
def f_Mo_beginAt_L17   : Nat → Int32 → Int32 → Int32 → Int32 → Int32 → Bool → (Nat → Int32) → (Nat → Int32) → (Nat → Int32) → Option (Int32 × Int32 × Int32 × Bool × (Nat → Int32) × (Nat → Int32) × (Nat → Int32))
  | 0, _, _, _, _, _, _, _, _, _ => none
  | n + 1, v1, v2, x_o_at, x_o_night, x_o_spent, x_o_hasBegun, x_o_had, x_o_last, x_o_often =>
    if (1024 : Int32) ≤ v2 then
      (f_Mo_beginAt_L48  3000 (0 : Int32) x_o_at x_o_night x_o_spent x_o_hasBegun x_o_had x_o_last x_o_often)
    else
      (if v2 = v1 then
        (f_Mo_beginAt_L39 (f_Mo_beginAt_L17  n) v1 v2 true v2 x_o_at x_o_night x_o_spent x_o_hasBegun x_o_had x_o_last x_o_often)
      else
        (f_Mo_beginAt_L39 (f_Mo_beginAt_L17  n) v1 v2 false v2 x_o_at x_o_night x_o_spent x_o_hasBegun x_o_had x_o_last x_o_often))
set_option maxRecDepth 20000 in
theorem w_Mo_beginAt_L17 {p : Program} {l : Launch} {e : Env} {s : State} {m : MethodId} {args : Array Value} {below : List Frame} {meth : Method} {c : Code} {D : va_G} {dA : Nat → ClassId} {A : Nat → Prop} (C : GC p s m args meth c prog_13_method_8_code 3 "OneLampModel" none D dA A) {a_o a_o_had a_o_told a_o_barred a_o_cost a_o_last a_o_often a_o_changeOf a_o_changeAt a_o_before a_o_behind a_o_tape a_o_act a_o_with a_o_lineMany a_o_testEnd a_o_lineEnd a_o_facts a_o_pile a_o_way a_o_bestWay a_o_wasHad a_o_wasLast a_o_keptHad a_o_keptTold a_o_keptLast a_o_keptOften a_o_kind a_o_traced a_o_holds a_o_size a_o_elements a_o_shifted : Nat} {x_o_code : Int32} {x_o_lamps : Int32} {x_o_rest : Int32} {x_o_shy : Int32} {x_o_doneMany : Int32} {x_o_undoneMany : Int32} {x_o_taped : Int32} {x_o_here : Int32} {x_o_fault : Int32} {x_o_open : Int32} {x_o_laid : Int32} {x_o_hasLaw : Bool} {x_o_bestMany : Int32} {x_o_wasAt : Int32} {x_o_wasNight : Int32} {x_o_hasImage : Bool} {x_o_keptLamps : Int32} {x_o_keptAt : Int32} {x_o_keptNight : Int32} {x_o_keptSpent : Int32} {x_o_bodies : Int32} {x_o_traces : Int32} {o_x_o_at : Int32} {o_x_o_night : Int32} {o_x_o_spent : Int32} {o_x_o_hasBegun : Bool} {o_x_o_had : Nat → Int32} {o_x_o_last : Nat → Int32} {o_x_o_often : Nat → Int32}    : ∀ (n : Nat) (v1 : Int32) (v2 : Int32) (x_o_at : Int32) (x_o_night : Int32) (x_o_spent : Int32) (x_o_hasBegun : Bool) (x_o_had : Nat → Int32) (x_o_last : Nat → Int32) (x_o_often : Nat → Int32), f_Mo_beginAt_L17   n v1 v2 x_o_at x_o_night x_o_spent x_o_hasBegun x_o_had x_o_last x_o_often = some (o_x_o_at, o_x_o_night, o_x_o_spent, o_x_o_hasBegun, o_x_o_had, o_x_o_last, o_x_o_often) → GG p l e { frames := 0, cells := 0, slots := 0, locals := 0 } s m args below meth c 3 D A 0 0 (MQ below (cQ D A none (fun _ : Unit => [O_Mo a_o x_o_code x_o_lamps o_x_o_at o_x_o_night o_x_o_spent x_o_rest x_o_shy a_o_had a_o_told a_o_barred a_o_cost a_o_last a_o_often o_x_o_hasBegun x_o_doneMany x_o_undoneMany a_o_changeOf a_o_changeAt a_o_before a_o_behind a_o_tape x_o_taped x_o_here x_o_fault x_o_open x_o_laid a_o_act a_o_with a_o_lineMany a_o_testEnd a_o_lineEnd a_o_facts a_o_pile x_o_hasLaw a_o_way a_o_bestWay x_o_bestMany a_o_wasHad a_o_wasLast x_o_wasAt x_o_wasNight x_o_hasImage x_o_keptLamps x_o_keptAt x_o_keptNight x_o_keptSpent a_o_keptHad a_o_keptTold a_o_keptLast a_o_keptOften x_o_bodies a_o_kind x_o_traces a_o_traced a_o_holds a_o_size a_o_elements a_o_shifted, A_Z dA a_o_had 1024 o_x_o_had, A_I dA a_o_last 10 o_x_o_last, A_I dA a_o_often 10 o_x_o_often])) args s 0 0 A) 17 [(0, .ref a_o), (1, .int v1), (2, .int v2)] [] [O_Mo a_o x_o_code x_o_lamps x_o_at x_o_night x_o_spent x_o_rest x_o_shy a_o_had a_o_told a_o_barred a_o_cost a_o_last a_o_often x_o_hasBegun x_o_doneMany x_o_undoneMany a_o_changeOf a_o_changeAt a_o_before a_o_behind a_o_tape x_o_taped x_o_here x_o_fault x_o_open x_o_laid a_o_act a_o_with a_o_lineMany a_o_testEnd a_o_lineEnd a_o_facts a_o_pile x_o_hasLaw a_o_way a_o_bestWay x_o_bestMany a_o_wasHad a_o_wasLast x_o_wasAt x_o_wasNight x_o_hasImage x_o_keptLamps x_o_keptAt x_o_keptNight x_o_keptSpent a_o_keptHad a_o_keptTold a_o_keptLast a_o_keptOften x_o_bodies a_o_kind x_o_traces a_o_traced a_o_holds a_o_size a_o_elements a_o_shifted, A_Z dA a_o_had 1024 x_o_had, A_I dA a_o_last 10 x_o_last, A_I dA a_o_often 10 x_o_often] := by
  intro n
  induction n with
  | zero =>
    intro v1 v2 x_o_at x_o_night x_o_spent x_o_hasBegun x_o_had x_o_last x_o_often hf
    cases hf
  | succ n ih =>
    intro v1 v2 x_o_at x_o_night x_o_spent x_o_hasBegun x_o_had x_o_last x_o_often hf
    unfold f_Mo_beginAt_L17 at hf
    refine g_iload_n (pc' := 18) C 2 d_Mo_beginAt_17 rfl rfl ?_
    refine g_sipush (pc' := 21) (v := 1024) C d_Mo_beginAt_18 rfl rfl ?_
    refine g_icmp_ge (pc' := 24) (tgt := 46) C d_Mo_beginAt_21 rfl rfl (fun h => ?_) (fun h => ?_)
    · replace hf := g_ip h hf
      refine g_iconst (pc' := 47) (v := 0) C d_Mo_beginAt_46 rfl rfl ?_
      refine g_istore_n (pc' := 48) (lv' := [(2, .int 0), (0, .ref a_o), (1, .int v1)]) C d_Mo_beginAt_47 rfl (by decide) rfl ?_
      refine g_lv (lv' := [(0, .ref a_o), (2, .int (0 : Int32))]) [1, 0] rfl ?_
      exact w_Mo_beginAt_L48 (a_o := a_o) (a_o_had := a_o_had) (a_o_told := a_o_told) (a_o_barred := a_o_barred) (a_o_cost := a_o_cost) (a_o_last := a_o_last) (a_o_often := a_o_often) (a_o_changeOf := a_o_changeOf) (a_o_changeAt := a_o_changeAt) (a_o_before := a_o_before) (a_o_behind := a_o_behind) (a_o_tape := a_o_tape) (a_o_act := a_o_act) (a_o_with := a_o_with) (a_o_lineMany := a_o_lineMany) (a_o_testEnd := a_o_testEnd) (a_o_lineEnd := a_o_lineEnd) (a_o_facts := a_o_facts) (a_o_pile := a_o_pile) (a_o_way := a_o_way) (a_o_bestWay := a_o_bestWay) (a_o_wasHad := a_o_wasHad) (a_o_wasLast := a_o_wasLast) (a_o_keptHad := a_o_keptHad) (a_o_keptTold := a_o_keptTold) (a_o_keptLast := a_o_keptLast) (a_o_keptOften := a_o_keptOften) (a_o_kind := a_o_kind) (a_o_traced := a_o_traced) (a_o_holds := a_o_holds) (a_o_size := a_o_size) (a_o_elements := a_o_elements) (a_o_shifted := a_o_shifted) C   3000 (0 : Int32) x_o_at x_o_night x_o_spent x_o_hasBegun x_o_had x_o_last x_o_often hf
    · replace hf := g_in h hf
      refine g_aload_n (pc' := 25) C 0 d_Mo_beginAt_24 rfl rfl ?_
      refine g_get (pc' := 28) C kf_Mo 7 mw_4_145 d_Mo_beginAt_25 rfl 0 rfl (by decide) rfl ?_
      refine g_iload_n (pc' := 29) C 2 d_Mo_beginAt_28 rfl rfl ?_
      refine g_iload_n (pc' := 30) C 2 d_Mo_beginAt_29 rfl rfl ?_
      refine g_iload_n (pc' := 31) C 1 d_Mo_beginAt_30 rfl rfl ?_
      refine g_icmp_ne (pc' := 34) (tgt := 38) C d_Mo_beginAt_31 rfl rfl (fun h => ?_) (fun h => ?_)
      · replace hf := g_in h hf
        refine g_iconst (pc' := 39) (v := 0) C d_Mo_beginAt_38 rfl rfl ?_
        exact w_Mo_beginAt_L39 (a_o := a_o) (a_o_had := a_o_had) (a_o_told := a_o_told) (a_o_barred := a_o_barred) (a_o_cost := a_o_cost) (a_o_last := a_o_last) (a_o_often := a_o_often) (a_o_changeOf := a_o_changeOf) (a_o_changeAt := a_o_changeAt) (a_o_before := a_o_before) (a_o_behind := a_o_behind) (a_o_tape := a_o_tape) (a_o_act := a_o_act) (a_o_with := a_o_with) (a_o_lineMany := a_o_lineMany) (a_o_testEnd := a_o_testEnd) (a_o_lineEnd := a_o_lineEnd) (a_o_facts := a_o_facts) (a_o_pile := a_o_pile) (a_o_way := a_o_way) (a_o_bestWay := a_o_bestWay) (a_o_wasHad := a_o_wasHad) (a_o_wasLast := a_o_wasLast) (a_o_keptHad := a_o_keptHad) (a_o_keptTold := a_o_keptTold) (a_o_keptLast := a_o_keptLast) (a_o_keptOften := a_o_keptOften) (a_o_kind := a_o_kind) (a_o_traced := a_o_traced) (a_o_holds := a_o_holds) (a_o_size := a_o_size) (a_o_elements := a_o_elements) (a_o_shifted := a_o_shifted) C  (f_Mo_beginAt_L17  n) ih v1 v2 false v2 x_o_at x_o_night x_o_spent x_o_hasBegun x_o_had x_o_last x_o_often hf
      · replace hf := g_ip h hf
        refine g_iconst (pc' := 35) (v := 1) C d_Mo_beginAt_34 rfl rfl ?_
        refine g_goto (tgt := 39) C d_Mo_beginAt_35 rfl ?_
        exact w_Mo_beginAt_L39 (a_o := a_o) (a_o_had := a_o_had) (a_o_told := a_o_told) (a_o_barred := a_o_barred) (a_o_cost := a_o_cost) (a_o_last := a_o_last) (a_o_often := a_o_often) (a_o_changeOf := a_o_changeOf) (a_o_changeAt := a_o_changeAt) (a_o_before := a_o_before) (a_o_behind := a_o_behind) (a_o_tape := a_o_tape) (a_o_act := a_o_act) (a_o_with := a_o_with) (a_o_lineMany := a_o_lineMany) (a_o_testEnd := a_o_testEnd) (a_o_lineEnd := a_o_lineEnd) (a_o_facts := a_o_facts) (a_o_pile := a_o_pile) (a_o_way := a_o_way) (a_o_bestWay := a_o_bestWay) (a_o_wasHad := a_o_wasHad) (a_o_wasLast := a_o_wasLast) (a_o_keptHad := a_o_keptHad) (a_o_keptTold := a_o_keptTold) (a_o_keptLast := a_o_keptLast) (a_o_keptOften := a_o_keptOften) (a_o_kind := a_o_kind) (a_o_traced := a_o_traced) (a_o_holds := a_o_holds) (a_o_size := a_o_size) (a_o_elements := a_o_elements) (a_o_shifted := a_o_shifted) C  (f_Mo_beginAt_L17  n) ih v1 v2 true v2 x_o_at x_o_night x_o_spent x_o_hasBegun x_o_had x_o_last x_o_often hf
def f_Mo_beginAt  (p1 : Int32) (x_o_at : Int32) (x_o_night : Int32) (x_o_spent : Int32) (x_o_hasBegun : Bool) (x_o_had : Nat → Int32) (x_o_last : Nat → Int32) (x_o_often : Nat → Int32) : Option (Int32 × Int32 × Int32 × Bool × (Nat → Int32) × (Nat → Int32) × (Nat → Int32)) :=
  f_Mo_beginAt_L17  3000 p1 (0 : Int32) p1 (0 : Int32) (0 : Int32) x_o_hasBegun x_o_had x_o_last x_o_often
set_option maxRecDepth 20000 in
theorem c_Mo_beginAt {l : Launch} {D : va_G} {dA : Nat → ClassId} {a_o a_o_had a_o_told a_o_barred a_o_cost a_o_last a_o_often a_o_changeOf a_o_changeAt a_o_before a_o_behind a_o_tape a_o_act a_o_with a_o_lineMany a_o_testEnd a_o_lineEnd a_o_facts a_o_pile a_o_way a_o_bestWay a_o_wasHad a_o_wasLast a_o_keptHad a_o_keptTold a_o_keptLast a_o_keptOften a_o_kind a_o_traced a_o_holds a_o_size a_o_elements a_o_shifted : Nat} {x_o_code : Int32} {x_o_lamps : Int32} {x_o_rest : Int32} {x_o_shy : Int32} {x_o_doneMany : Int32} {x_o_undoneMany : Int32} {x_o_taped : Int32} {x_o_here : Int32} {x_o_fault : Int32} {x_o_open : Int32} {x_o_laid : Int32} {x_o_hasLaw : Bool} {x_o_bestMany : Int32} {x_o_wasAt : Int32} {x_o_wasNight : Int32} {x_o_hasImage : Bool} {x_o_keptLamps : Int32} {x_o_keptAt : Int32} {x_o_keptNight : Int32} {x_o_keptSpent : Int32} {x_o_bodies : Int32} {x_o_traces : Int32} {p1 : Int32} {x_o_at : Int32} {x_o_night : Int32} {x_o_spent : Int32} {x_o_hasBegun : Bool} {x_o_had : Nat → Int32} {x_o_last : Nat → Int32} {x_o_often : Nat → Int32} {o_x_o_at : Int32} {o_x_o_night : Int32} {o_x_o_spent : Int32} {o_x_o_hasBegun : Bool} {o_x_o_had : Nat → Int32} {o_x_o_last : Nat → Int32} {o_x_o_often : Nat → Int32}   (hf : f_Mo_beginAt  p1 x_o_at x_o_night x_o_spent x_o_hasBegun x_o_had x_o_last x_o_often = some (o_x_o_at, o_x_o_night, o_x_o_spent, o_x_o_hasBegun, o_x_o_had, o_x_o_last, o_x_o_often)) : CT l y_Mo_beginAt prog_13_method_8_code 3 none { frames := 0, cells := 0, slots := 0, locals := 0 } D dA [.ref a_o, .int p1] [O_Mo a_o x_o_code x_o_lamps x_o_at x_o_night x_o_spent x_o_rest x_o_shy a_o_had a_o_told a_o_barred a_o_cost a_o_last a_o_often x_o_hasBegun x_o_doneMany x_o_undoneMany a_o_changeOf a_o_changeAt a_o_before a_o_behind a_o_tape x_o_taped x_o_here x_o_fault x_o_open x_o_laid a_o_act a_o_with a_o_lineMany a_o_testEnd a_o_lineEnd a_o_facts a_o_pile x_o_hasLaw a_o_way a_o_bestWay x_o_bestMany a_o_wasHad a_o_wasLast x_o_wasAt x_o_wasNight x_o_hasImage x_o_keptLamps x_o_keptAt x_o_keptNight x_o_keptSpent a_o_keptHad a_o_keptTold a_o_keptLast a_o_keptOften x_o_bodies a_o_kind x_o_traces a_o_traced a_o_holds a_o_size a_o_elements a_o_shifted, A_Z dA a_o_had 1024 x_o_had, A_I dA a_o_last 10 x_o_last, A_I dA a_o_often 10 x_o_often] none (fun _ : Unit => [O_Mo a_o x_o_code x_o_lamps o_x_o_at o_x_o_night o_x_o_spent x_o_rest x_o_shy a_o_had a_o_told a_o_barred a_o_cost a_o_last a_o_often o_x_o_hasBegun x_o_doneMany x_o_undoneMany a_o_changeOf a_o_changeAt a_o_before a_o_behind a_o_tape x_o_taped x_o_here x_o_fault x_o_open x_o_laid a_o_act a_o_with a_o_lineMany a_o_testEnd a_o_lineEnd a_o_facts a_o_pile x_o_hasLaw a_o_way a_o_bestWay x_o_bestMany a_o_wasHad a_o_wasLast x_o_wasAt x_o_wasNight x_o_hasImage x_o_keptLamps x_o_keptAt x_o_keptNight x_o_keptSpent a_o_keptHad a_o_keptTold a_o_keptLast a_o_keptOften x_o_bodies a_o_kind x_o_traces a_o_traced a_o_holds a_o_size a_o_elements a_o_shifted, A_Z dA a_o_had 1024 o_x_o_had, A_I dA a_o_last 10 o_x_o_last, A_I dA a_o_often 10 o_x_o_often]) := by
  refine ct_intro "OneLampModel" rfl (by decide +kernel) (Nat.le_of_ble_eq_true rfl) [(0, .ref a_o), (1, .int p1)] rfl (fun _ C => ?_)
  unfold f_Mo_beginAt at hf
  refine g_aload_n (pc' := 1) C 0 d_Mo_beginAt_0 rfl rfl ?_
  refine g_iload_n (pc' := 2) C 1 d_Mo_beginAt_1 rfl rfl ?_
  refine g_put (pc' := 5) (ws' := [O_Mo a_o x_o_code x_o_lamps p1 x_o_night x_o_spent x_o_rest x_o_shy a_o_had a_o_told a_o_barred a_o_cost a_o_last a_o_often x_o_hasBegun x_o_doneMany x_o_undoneMany a_o_changeOf a_o_changeAt a_o_before a_o_behind a_o_tape x_o_taped x_o_here x_o_fault x_o_open x_o_laid a_o_act a_o_with a_o_lineMany a_o_testEnd a_o_lineEnd a_o_facts a_o_pile x_o_hasLaw a_o_way a_o_bestWay x_o_bestMany a_o_wasHad a_o_wasLast x_o_wasAt x_o_wasNight x_o_hasImage x_o_keptLamps x_o_keptAt x_o_keptNight x_o_keptSpent a_o_keptHad a_o_keptTold a_o_keptLast a_o_keptOften x_o_bodies a_o_kind x_o_traces a_o_traced a_o_holds a_o_size a_o_elements a_o_shifted, A_Z dA a_o_had 1024 x_o_had, A_I dA a_o_last 10 x_o_last, A_I dA a_o_often 10 x_o_often]) C kf_Mo 2 mw_4_140 d_Mo_beginAt_2 rfl 0 rfl (by decide) rfl rfl rfl (Nat.le_of_ble_eq_true rfl) rfl ?_
  refine g_aload_n (pc' := 6) C 0 d_Mo_beginAt_5 rfl rfl ?_
  refine g_iconst (pc' := 7) (v := 0) C d_Mo_beginAt_6 rfl rfl ?_
  refine g_put (pc' := 10) (ws' := [O_Mo a_o x_o_code x_o_lamps p1 (0 : Int32) x_o_spent x_o_rest x_o_shy a_o_had a_o_told a_o_barred a_o_cost a_o_last a_o_often x_o_hasBegun x_o_doneMany x_o_undoneMany a_o_changeOf a_o_changeAt a_o_before a_o_behind a_o_tape x_o_taped x_o_here x_o_fault x_o_open x_o_laid a_o_act a_o_with a_o_lineMany a_o_testEnd a_o_lineEnd a_o_facts a_o_pile x_o_hasLaw a_o_way a_o_bestWay x_o_bestMany a_o_wasHad a_o_wasLast x_o_wasAt x_o_wasNight x_o_hasImage x_o_keptLamps x_o_keptAt x_o_keptNight x_o_keptSpent a_o_keptHad a_o_keptTold a_o_keptLast a_o_keptOften x_o_bodies a_o_kind x_o_traces a_o_traced a_o_holds a_o_size a_o_elements a_o_shifted, A_Z dA a_o_had 1024 x_o_had, A_I dA a_o_last 10 x_o_last, A_I dA a_o_often 10 x_o_often]) C kf_Mo 3 mw_4_141 d_Mo_beginAt_7 rfl 0 rfl (by decide) rfl rfl rfl (Nat.le_of_ble_eq_true rfl) rfl ?_
  refine g_aload_n (pc' := 11) C 0 d_Mo_beginAt_10 rfl rfl ?_
  refine g_iconst (pc' := 12) (v := 0) C d_Mo_beginAt_11 rfl rfl ?_
  refine g_put (pc' := 15) (ws' := [O_Mo a_o x_o_code x_o_lamps p1 (0 : Int32) (0 : Int32) x_o_rest x_o_shy a_o_had a_o_told a_o_barred a_o_cost a_o_last a_o_often x_o_hasBegun x_o_doneMany x_o_undoneMany a_o_changeOf a_o_changeAt a_o_before a_o_behind a_o_tape x_o_taped x_o_here x_o_fault x_o_open x_o_laid a_o_act a_o_with a_o_lineMany a_o_testEnd a_o_lineEnd a_o_facts a_o_pile x_o_hasLaw a_o_way a_o_bestWay x_o_bestMany a_o_wasHad a_o_wasLast x_o_wasAt x_o_wasNight x_o_hasImage x_o_keptLamps x_o_keptAt x_o_keptNight x_o_keptSpent a_o_keptHad a_o_keptTold a_o_keptLast a_o_keptOften x_o_bodies a_o_kind x_o_traces a_o_traced a_o_holds a_o_size a_o_elements a_o_shifted, A_Z dA a_o_had 1024 x_o_had, A_I dA a_o_last 10 x_o_last, A_I dA a_o_often 10 x_o_often]) C kf_Mo 4 mw_4_142 d_Mo_beginAt_12 rfl 0 rfl (by decide) rfl rfl rfl (Nat.le_of_ble_eq_true rfl) rfl ?_
  refine g_iconst (pc' := 16) (v := 0) C d_Mo_beginAt_15 rfl rfl ?_
  refine g_istore_n (pc' := 17) (lv' := [(2, .int 0), (0, .ref a_o), (1, .int p1)]) C d_Mo_beginAt_16 rfl (by decide) rfl ?_
  refine g_lv (lv' := [(0, .ref a_o), (1, .int p1), (2, .int (0 : Int32))]) [1, 2, 0] rfl ?_
  exact w_Mo_beginAt_L17 (a_o := a_o) (a_o_had := a_o_had) (a_o_told := a_o_told) (a_o_barred := a_o_barred) (a_o_cost := a_o_cost) (a_o_last := a_o_last) (a_o_often := a_o_often) (a_o_changeOf := a_o_changeOf) (a_o_changeAt := a_o_changeAt) (a_o_before := a_o_before) (a_o_behind := a_o_behind) (a_o_tape := a_o_tape) (a_o_act := a_o_act) (a_o_with := a_o_with) (a_o_lineMany := a_o_lineMany) (a_o_testEnd := a_o_testEnd) (a_o_lineEnd := a_o_lineEnd) (a_o_facts := a_o_facts) (a_o_pile := a_o_pile) (a_o_way := a_o_way) (a_o_bestWay := a_o_bestWay) (a_o_wasHad := a_o_wasHad) (a_o_wasLast := a_o_wasLast) (a_o_keptHad := a_o_keptHad) (a_o_keptTold := a_o_keptTold) (a_o_keptLast := a_o_keptLast) (a_o_keptOften := a_o_keptOften) (a_o_kind := a_o_kind) (a_o_traced := a_o_traced) (a_o_holds := a_o_holds) (a_o_size := a_o_size) (a_o_elements := a_o_elements) (a_o_shifted := a_o_shifted) C   3000 p1 (0 : Int32) p1 (0 : Int32) (0 : Int32) x_o_hasBegun x_o_had x_o_last x_o_often hf
def y_Mo_ready : MethodName := ⟨"OneLampModel", "ready", "()V"⟩
theorem yy_Mo_ready : YV y_Mo_ready prog_13_method_9_code 1 none 0 := ⟨mw_5_145, mw_1_12, mw_5_144, tm_s (y := y_Mo_ready) (n := 58) (by decide +kernel), by decide +kernel, by decide +kernel, by decide +kernel⟩
theorem d_Mo_ready_0 : decode prog_13_method_9_code 0 = .ok (.aload_n 0, 1) := by decide +kernel
theorem d_Mo_ready_1 : decode prog_13_method_9_code 1 = .ok (.getfield 134, 3) := by decide +kernel
theorem d_Mo_ready_4 : decode prog_13_method_9_code 4 = .ok (.ifCond .ne 8, 3) := by decide +kernel
theorem d_Mo_ready_7 : decode prog_13_method_9_code 7 = .ok (.aload_n 0, 1) := by decide +kernel
theorem d_Mo_ready_8 : decode prog_13_method_9_code 8 = .ok (.iconst 0, 1) := by decide +kernel
theorem d_Mo_ready_9 : decode prog_13_method_9_code 9 = .ok (.invokevirtual 138, 3) := by decide +kernel
theorem d_Mo_ready_12 : decode prog_13_method_9_code 12 = .ok (.return_, 1) := by decide +kernel
def f_Mo_ready  (x_o_at : Int32) (x_o_night : Int32) (x_o_spent : Int32) (x_o_hasBegun : Bool) (x_o_had : Nat → Int32) (x_o_last : Nat → Int32) (x_o_often : Nat → Int32) : Option (Int32 × Int32 × Int32 × Bool × (Nat → Int32) × (Nat → Int32) × (Nat → Int32)) :=
  if x_o_hasBegun = true then
    (some (x_o_at, x_o_night, x_o_spent, x_o_hasBegun, x_o_had, x_o_last, x_o_often))
  else
    ((f_Mo_beginAt  (0 : Int32) x_o_at x_o_night x_o_spent x_o_hasBegun x_o_had x_o_last x_o_often).bind fun (u1, u2, u3, u4, u5, u6, u7) =>
    some (u1, u2, u3, u4, u5, u6, u7))
set_option maxRecDepth 20000 in
theorem c_Mo_ready {l : Launch} {D : va_G} {dA : Nat → ClassId} {a_o a_o_had a_o_told a_o_barred a_o_cost a_o_last a_o_often a_o_changeOf a_o_changeAt a_o_before a_o_behind a_o_tape a_o_act a_o_with a_o_lineMany a_o_testEnd a_o_lineEnd a_o_facts a_o_pile a_o_way a_o_bestWay a_o_wasHad a_o_wasLast a_o_keptHad a_o_keptTold a_o_keptLast a_o_keptOften a_o_kind a_o_traced a_o_holds a_o_size a_o_elements a_o_shifted : Nat} {x_o_code : Int32} {x_o_lamps : Int32} {x_o_rest : Int32} {x_o_shy : Int32} {x_o_doneMany : Int32} {x_o_undoneMany : Int32} {x_o_taped : Int32} {x_o_here : Int32} {x_o_fault : Int32} {x_o_open : Int32} {x_o_laid : Int32} {x_o_hasLaw : Bool} {x_o_bestMany : Int32} {x_o_wasAt : Int32} {x_o_wasNight : Int32} {x_o_hasImage : Bool} {x_o_keptLamps : Int32} {x_o_keptAt : Int32} {x_o_keptNight : Int32} {x_o_keptSpent : Int32} {x_o_bodies : Int32} {x_o_traces : Int32} {x_o_at : Int32} {x_o_night : Int32} {x_o_spent : Int32} {x_o_hasBegun : Bool} {x_o_had : Nat → Int32} {x_o_last : Nat → Int32} {x_o_often : Nat → Int32} {o_x_o_at : Int32} {o_x_o_night : Int32} {o_x_o_spent : Int32} {o_x_o_hasBegun : Bool} {o_x_o_had : Nat → Int32} {o_x_o_last : Nat → Int32} {o_x_o_often : Nat → Int32}   (hf : f_Mo_ready  x_o_at x_o_night x_o_spent x_o_hasBegun x_o_had x_o_last x_o_often = some (o_x_o_at, o_x_o_night, o_x_o_spent, o_x_o_hasBegun, o_x_o_had, o_x_o_last, o_x_o_often)) : CT l y_Mo_ready prog_13_method_9_code 1 none { frames := 1, cells := 0, slots := 0, locals := 22 } D dA [.ref a_o] [O_Mo a_o x_o_code x_o_lamps x_o_at x_o_night x_o_spent x_o_rest x_o_shy a_o_had a_o_told a_o_barred a_o_cost a_o_last a_o_often x_o_hasBegun x_o_doneMany x_o_undoneMany a_o_changeOf a_o_changeAt a_o_before a_o_behind a_o_tape x_o_taped x_o_here x_o_fault x_o_open x_o_laid a_o_act a_o_with a_o_lineMany a_o_testEnd a_o_lineEnd a_o_facts a_o_pile x_o_hasLaw a_o_way a_o_bestWay x_o_bestMany a_o_wasHad a_o_wasLast x_o_wasAt x_o_wasNight x_o_hasImage x_o_keptLamps x_o_keptAt x_o_keptNight x_o_keptSpent a_o_keptHad a_o_keptTold a_o_keptLast a_o_keptOften x_o_bodies a_o_kind x_o_traces a_o_traced a_o_holds a_o_size a_o_elements a_o_shifted, A_Z dA a_o_had 1024 x_o_had, A_I dA a_o_last 10 x_o_last, A_I dA a_o_often 10 x_o_often] none (fun _ : Unit => [O_Mo a_o x_o_code x_o_lamps o_x_o_at o_x_o_night o_x_o_spent x_o_rest x_o_shy a_o_had a_o_told a_o_barred a_o_cost a_o_last a_o_often o_x_o_hasBegun x_o_doneMany x_o_undoneMany a_o_changeOf a_o_changeAt a_o_before a_o_behind a_o_tape x_o_taped x_o_here x_o_fault x_o_open x_o_laid a_o_act a_o_with a_o_lineMany a_o_testEnd a_o_lineEnd a_o_facts a_o_pile x_o_hasLaw a_o_way a_o_bestWay x_o_bestMany a_o_wasHad a_o_wasLast x_o_wasAt x_o_wasNight x_o_hasImage x_o_keptLamps x_o_keptAt x_o_keptNight x_o_keptSpent a_o_keptHad a_o_keptTold a_o_keptLast a_o_keptOften x_o_bodies a_o_kind x_o_traces a_o_traced a_o_holds a_o_size a_o_elements a_o_shifted, A_Z dA a_o_had 1024 o_x_o_had, A_I dA a_o_last 10 o_x_o_last, A_I dA a_o_often 10 o_x_o_often]) := by
  refine ct_intro "OneLampModel" rfl (by decide +kernel) (Nat.le_of_ble_eq_true rfl) [(0, .ref a_o)] rfl (fun _ C => ?_)
  unfold f_Mo_ready at hf
  refine g_aload_n (pc' := 1) C 0 d_Mo_ready_0 rfl rfl ?_
  refine g_get (pc' := 4) C kf_Mo 13 mw_4_151 d_Mo_ready_1 rfl 0 rfl (by decide) rfl ?_
  refine g_if_neb (pc' := 7) (tgt := 12) C d_Mo_ready_4 rfl rfl (fun h => ?_) (fun h => ?_)
  · replace hf := g_bt h hf
    replace hf := g_o2 hf; obtain ⟨h1, hf⟩ := hf; subst h1
    replace hf := g_o2 hf; obtain ⟨h1, hf⟩ := hf; subst h1
    replace hf := g_o2 hf; obtain ⟨h1, hf⟩ := hf; subst h1
    replace hf := g_o2 hf; obtain ⟨h1, hf⟩ := hf; subst h1
    replace hf := g_o2 hf; obtain ⟨h1, hf⟩ := hf; subst h1
    replace hf := g_o2 hf; obtain ⟨h1, hf⟩ := hf; subst h1
    replace hf := Option.some.inj hf; subst hf
    exact g_vret C d_Mo_ready_12 () rfl
  · replace hf := g_bf h hf
    refine g_aload_n (pc' := 8) C 0 d_Mo_ready_7 rfl rfl ?_
    refine g_iconst (pc' := 9) (v := 0) C d_Mo_ready_8 rfl rfl ?_
    replace hf := g_bi hf; obtain ⟨⟨u1, u2, u3, u4, u5, u6, u7⟩, hc8, hf⟩ := hf
    dsimp only at hf
    refine g_callV (pc' := 12) (st1 := []) (ws1 := [O_Mo a_o x_o_code x_o_lamps u1 u2 u3 x_o_rest x_o_shy a_o_had a_o_told a_o_barred a_o_cost a_o_last a_o_often u4 x_o_doneMany x_o_undoneMany a_o_changeOf a_o_changeAt a_o_before a_o_behind a_o_tape x_o_taped x_o_here x_o_fault x_o_open x_o_laid a_o_act a_o_with a_o_lineMany a_o_testEnd a_o_lineEnd a_o_facts a_o_pile x_o_hasLaw a_o_way a_o_bestWay x_o_bestMany a_o_wasHad a_o_wasLast x_o_wasAt x_o_wasNight x_o_hasImage x_o_keptLamps x_o_keptAt x_o_keptNight x_o_keptSpent a_o_keptHad a_o_keptTold a_o_keptLast a_o_keptOften x_o_bodies a_o_kind x_o_traces a_o_traced a_o_holds a_o_size a_o_elements a_o_shifted, A_Z dA a_o_had 1024 u5, A_I dA a_o_last 10 u6, A_I dA a_o_often 10 u7]) C (c_Mo_beginAt (l := l) (D := D) (dA := dA) (a_o := a_o) (a_o_had := a_o_had) (a_o_told := a_o_told) (a_o_barred := a_o_barred) (a_o_cost := a_o_cost) (a_o_last := a_o_last) (a_o_often := a_o_often) (a_o_changeOf := a_o_changeOf) (a_o_changeAt := a_o_changeAt) (a_o_before := a_o_before) (a_o_behind := a_o_behind) (a_o_tape := a_o_tape) (a_o_act := a_o_act) (a_o_with := a_o_with) (a_o_lineMany := a_o_lineMany) (a_o_testEnd := a_o_testEnd) (a_o_lineEnd := a_o_lineEnd) (a_o_facts := a_o_facts) (a_o_pile := a_o_pile) (a_o_way := a_o_way) (a_o_bestWay := a_o_bestWay) (a_o_wasHad := a_o_wasHad) (a_o_wasLast := a_o_wasLast) (a_o_keptHad := a_o_keptHad) (a_o_keptTold := a_o_keptTold) (a_o_keptLast := a_o_keptLast) (a_o_keptOften := a_o_keptOften) (a_o_kind := a_o_kind) (a_o_traced := a_o_traced) (a_o_holds := a_o_holds) (a_o_size := a_o_size) (a_o_elements := a_o_elements) (a_o_shifted := a_o_shifted) (x_o_code := x_o_code) (x_o_lamps := x_o_lamps) (x_o_rest := x_o_rest) (x_o_shy := x_o_shy) (x_o_doneMany := x_o_doneMany) (x_o_undoneMany := x_o_undoneMany) (x_o_taped := x_o_taped) (x_o_here := x_o_here) (x_o_fault := x_o_fault) (x_o_open := x_o_open) (x_o_laid := x_o_laid) (x_o_hasLaw := x_o_hasLaw) (x_o_bestMany := x_o_bestMany) (x_o_wasAt := x_o_wasAt) (x_o_wasNight := x_o_wasNight) (x_o_hasImage := x_o_hasImage) (x_o_keptLamps := x_o_keptLamps) (x_o_keptAt := x_o_keptAt) (x_o_keptNight := x_o_keptNight) (x_o_keptSpent := x_o_keptSpent) (x_o_bodies := x_o_bodies) (x_o_traces := x_o_traces)   hc8) yy_Mo_beginAt kf_Mo rfl mw_5_83 d_Mo_ready_9 rfl [] rfl rfl (Nat.le_of_ble_eq_true rfl) ⟨Nat.le_of_ble_eq_true rfl, Nat.le_of_ble_eq_true rfl⟩ rfl rfl (Nat.zero_le _) (Nat.zero_le _) 0 rfl [0, 1, 2, 3] rfl (by decide +kernel) rfl (g_lay_sel _ _ _ _ [(0, true), (1, true), (2, true), (3, true)] (by decide +kernel) rfl (by decide +kernel) rfl rfl) rfl ?_
    replace hf := g_o2 hf; obtain ⟨h1, hf⟩ := hf; subst h1
    replace hf := g_o2 hf; obtain ⟨h1, hf⟩ := hf; subst h1
    replace hf := g_o2 hf; obtain ⟨h1, hf⟩ := hf; subst h1
    replace hf := g_o2 hf; obtain ⟨h1, hf⟩ := hf; subst h1
    replace hf := g_o2 hf; obtain ⟨h1, hf⟩ := hf; subst h1
    replace hf := g_o2 hf; obtain ⟨h1, hf⟩ := hf; subst h1
    replace hf := Option.some.inj hf; subst hf
    exact g_vret C d_Mo_ready_12 () rfl
def y_Mo_lamps : MethodName := ⟨"OneLampModel", "lamps", "(I)I"⟩
theorem yy_Mo_lamps : YV y_Mo_lamps prog_13_method_10_code 4 (some .int) 1 := ⟨mw_5_79, mw_1_12, mw_5_77, mw_5_78, by decide +kernel, by decide +kernel, by decide +kernel⟩
theorem d_Mo_lamps_0 : decode prog_13_method_10_code 0 = .ok (.iload_n 1, 1) := by decide +kernel
theorem d_Mo_lamps_1 : decode prog_13_method_10_code 1 = .ok (.iconst 1, 1) := by decide +kernel
theorem d_Mo_lamps_2 : decode prog_13_method_10_code 2 = .ok (.bipush 10, 2) := by decide +kernel
theorem d_Mo_lamps_4 : decode prog_13_method_10_code 4 = .ok (.invokestatic 121, 3) := by decide +kernel
theorem d_Mo_lamps_7 : decode prog_13_method_10_code 7 = .ok (.ifCond .ne 5, 3) := by decide +kernel
theorem d_Mo_lamps_10 : decode prog_13_method_10_code 10 = .ok (.iconst (-1), 1) := by decide +kernel
theorem d_Mo_lamps_11 : decode prog_13_method_10_code 11 = .ok (.ireturn, 1) := by decide +kernel
theorem d_Mo_lamps_12 : decode prog_13_method_10_code 12 = .ok (.aload_n 0, 1) := by decide +kernel
theorem d_Mo_lamps_13 : decode prog_13_method_10_code 13 = .ok (.getfield 7, 3) := by decide +kernel
theorem d_Mo_lamps_16 : decode prog_13_method_10_code 16 = .ok (.istore_n 2, 1) := by decide +kernel
theorem d_Mo_lamps_17 : decode prog_13_method_10_code 17 = .ok (.aload_n 0, 1) := by decide +kernel
theorem d_Mo_lamps_18 : decode prog_13_method_10_code 18 = .ok (.iload_n 1, 1) := by decide +kernel
theorem d_Mo_lamps_19 : decode prog_13_method_10_code 19 = .ok (.putfield 7, 3) := by decide +kernel
theorem d_Mo_lamps_22 : decode prog_13_method_10_code 22 = .ok (.iconst 0, 1) := by decide +kernel
theorem d_Mo_lamps_23 : decode prog_13_method_10_code 23 = .ok (.istore_n 3, 1) := by decide +kernel
theorem d_Mo_lamps_24 : decode prog_13_method_10_code 24 = .ok (.iload_n 3, 1) := by decide +kernel
theorem d_Mo_lamps_25 : decode prog_13_method_10_code 25 = .ok (.sipush 1024, 3) := by decide +kernel
theorem d_Mo_lamps_28 : decode prog_13_method_10_code 28 = .ok (.if_icmp .ge 16, 3) := by decide +kernel
theorem d_Mo_lamps_31 : decode prog_13_method_10_code 31 = .ok (.aload_n 0, 1) := by decide +kernel
theorem d_Mo_lamps_32 : decode prog_13_method_10_code 32 = .ok (.getfield 17, 3) := by decide +kernel
theorem d_Mo_lamps_35 : decode prog_13_method_10_code 35 = .ok (.iload_n 3, 1) := by decide +kernel
theorem d_Mo_lamps_36 : decode prog_13_method_10_code 36 = .ok (.iconst 0, 1) := by decide +kernel
theorem d_Mo_lamps_37 : decode prog_13_method_10_code 37 = .ok (.bastore, 1) := by decide +kernel
theorem d_Mo_lamps_38 : decode prog_13_method_10_code 38 = .ok (.iinc 3 1, 3) := by decide +kernel
theorem d_Mo_lamps_41 : decode prog_13_method_10_code 41 = .ok (.goto (-17), 3) := by decide +kernel
theorem d_Mo_lamps_44 : decode prog_13_method_10_code 44 = .ok (.aload_n 0, 1) := by decide +kernel
theorem d_Mo_lamps_45 : decode prog_13_method_10_code 45 = .ok (.iconst 0, 1) := by decide +kernel
theorem d_Mo_lamps_46 : decode prog_13_method_10_code 46 = .ok (.invokevirtual 138, 3) := by decide +kernel
theorem d_Mo_lamps_49 : decode prog_13_method_10_code 49 = .ok (.iload_n 2, 1) := by decide +kernel
theorem d_Mo_lamps_50 : decode prog_13_method_10_code 50 = .ok (.ireturn, 1) := by decide +kernel
def f_Mo_lamps_L24   : Nat → Int32 → Int32 → Int32 → Int32 → Int32 → Int32 → Bool → (Nat → Int32) → (Nat → Int32) → (Nat → Int32) → (Nat → Int32) → Option (Int32 × Int32 × Int32 × Int32 × Int32 × Bool × (Nat → Int32) × (Nat → Int32) × (Nat → Int32) × (Nat → Int32))
  | 0, _, _, _, _, _, _, _, _, _, _, _ => none
  | n + 1, v2, v3, x_o_lamps, x_o_at, x_o_night, x_o_spent, x_o_hasBegun, x_o_told, x_o_had, x_o_last, x_o_often =>
    if (1024 : Int32) ≤ v3 then
      ((f_Mo_beginAt  (0 : Int32) x_o_at x_o_night x_o_spent x_o_hasBegun x_o_had x_o_last x_o_often).bind fun (u1, u2, u3, u4, u5, u6, u7) =>
      some (v2, x_o_lamps, u1, u2, u3, u4, x_o_told, u5, u6, u7))
    else
      (if v3 < 0 ∨ 1024 ≤ Int32.toNatClampNeg v3 then none else
      f_Mo_lamps_L24  n v2 (v3 + 1) x_o_lamps x_o_at x_o_night x_o_spent x_o_hasBegun (upd x_o_told (Int32.toNatClampNeg v3) (vp_nar .boolean (0 : Int32))) x_o_had x_o_last x_o_often)
set_option maxRecDepth 20000 in
theorem w_Mo_lamps_L24 {p : Program} {l : Launch} {e : Env} {s : State} {m : MethodId} {args : Array Value} {below : List Frame} {meth : Method} {c : Code} {D : va_G} {dA : Nat → ClassId} {A : Nat → Prop} (C : GC p s m args meth c prog_13_method_10_code 4 "OneLampModel" (some .int) D dA A) {a_o a_o_had a_o_told a_o_barred a_o_cost a_o_last a_o_often a_o_changeOf a_o_changeAt a_o_before a_o_behind a_o_tape a_o_act a_o_with a_o_lineMany a_o_testEnd a_o_lineEnd a_o_facts a_o_pile a_o_way a_o_bestWay a_o_wasHad a_o_wasLast a_o_keptHad a_o_keptTold a_o_keptLast a_o_keptOften a_o_kind a_o_traced a_o_holds a_o_size a_o_elements a_o_shifted : Nat} {x_o_code : Int32} {x_o_rest : Int32} {x_o_shy : Int32} {x_o_doneMany : Int32} {x_o_undoneMany : Int32} {x_o_taped : Int32} {x_o_here : Int32} {x_o_fault : Int32} {x_o_open : Int32} {x_o_laid : Int32} {x_o_hasLaw : Bool} {x_o_bestMany : Int32} {x_o_wasAt : Int32} {x_o_wasNight : Int32} {x_o_hasImage : Bool} {x_o_keptLamps : Int32} {x_o_keptAt : Int32} {x_o_keptNight : Int32} {x_o_keptSpent : Int32} {x_o_bodies : Int32} {x_o_traces : Int32} {r0 : Int32} {o_x_o_lamps : Int32} {o_x_o_at : Int32} {o_x_o_night : Int32} {o_x_o_spent : Int32} {o_x_o_hasBegun : Bool} {o_x_o_told : Nat → Int32} {o_x_o_had : Nat → Int32} {o_x_o_last : Nat → Int32} {o_x_o_often : Nat → Int32}    : ∀ (n : Nat) (v2 : Int32) (v3 : Int32) (x_o_lamps : Int32) (x_o_at : Int32) (x_o_night : Int32) (x_o_spent : Int32) (x_o_hasBegun : Bool) (x_o_told : Nat → Int32) (x_o_had : Nat → Int32) (x_o_last : Nat → Int32) (x_o_often : Nat → Int32), f_Mo_lamps_L24   n v2 v3 x_o_lamps x_o_at x_o_night x_o_spent x_o_hasBegun x_o_told x_o_had x_o_last x_o_often = some (r0, o_x_o_lamps, o_x_o_at, o_x_o_night, o_x_o_spent, o_x_o_hasBegun, o_x_o_told, o_x_o_had, o_x_o_last, o_x_o_often) → GG p l e { frames := 1, cells := 0, slots := 0, locals := 22 } s m args below meth c 4 D A 0 0 (MQ below (cQ D A (some (.int r0)) (fun _ : Unit => [O_Mo a_o x_o_code o_x_o_lamps o_x_o_at o_x_o_night o_x_o_spent x_o_rest x_o_shy a_o_had a_o_told a_o_barred a_o_cost a_o_last a_o_often o_x_o_hasBegun x_o_doneMany x_o_undoneMany a_o_changeOf a_o_changeAt a_o_before a_o_behind a_o_tape x_o_taped x_o_here x_o_fault x_o_open x_o_laid a_o_act a_o_with a_o_lineMany a_o_testEnd a_o_lineEnd a_o_facts a_o_pile x_o_hasLaw a_o_way a_o_bestWay x_o_bestMany a_o_wasHad a_o_wasLast x_o_wasAt x_o_wasNight x_o_hasImage x_o_keptLamps x_o_keptAt x_o_keptNight x_o_keptSpent a_o_keptHad a_o_keptTold a_o_keptLast a_o_keptOften x_o_bodies a_o_kind x_o_traces a_o_traced a_o_holds a_o_size a_o_elements a_o_shifted, A_Z dA a_o_told 1024 o_x_o_told, A_Z dA a_o_had 1024 o_x_o_had, A_I dA a_o_last 10 o_x_o_last, A_I dA a_o_often 10 o_x_o_often])) args s 0 0 A) 24 [(0, .ref a_o), (2, .int v2), (3, .int v3)] [] [O_Mo a_o x_o_code x_o_lamps x_o_at x_o_night x_o_spent x_o_rest x_o_shy a_o_had a_o_told a_o_barred a_o_cost a_o_last a_o_often x_o_hasBegun x_o_doneMany x_o_undoneMany a_o_changeOf a_o_changeAt a_o_before a_o_behind a_o_tape x_o_taped x_o_here x_o_fault x_o_open x_o_laid a_o_act a_o_with a_o_lineMany a_o_testEnd a_o_lineEnd a_o_facts a_o_pile x_o_hasLaw a_o_way a_o_bestWay x_o_bestMany a_o_wasHad a_o_wasLast x_o_wasAt x_o_wasNight x_o_hasImage x_o_keptLamps x_o_keptAt x_o_keptNight x_o_keptSpent a_o_keptHad a_o_keptTold a_o_keptLast a_o_keptOften x_o_bodies a_o_kind x_o_traces a_o_traced a_o_holds a_o_size a_o_elements a_o_shifted, A_Z dA a_o_told 1024 x_o_told, A_Z dA a_o_had 1024 x_o_had, A_I dA a_o_last 10 x_o_last, A_I dA a_o_often 10 x_o_often] := by
  intro n
  induction n with
  | zero =>
    intro v2 v3 x_o_lamps x_o_at x_o_night x_o_spent x_o_hasBegun x_o_told x_o_had x_o_last x_o_often hf
    cases hf
  | succ n ih =>
    intro v2 v3 x_o_lamps x_o_at x_o_night x_o_spent x_o_hasBegun x_o_told x_o_had x_o_last x_o_often hf
    unfold f_Mo_lamps_L24 at hf
    refine g_iload_n (pc' := 25) C 2 d_Mo_lamps_24 rfl rfl ?_
    refine g_sipush (pc' := 28) (v := 1024) C d_Mo_lamps_25 rfl rfl ?_
    refine g_icmp_ge (pc' := 31) (tgt := 44) C d_Mo_lamps_28 rfl rfl (fun h => ?_) (fun h => ?_)
    · replace hf := g_ip h hf
      refine g_aload_n (pc' := 45) C 0 d_Mo_lamps_44 rfl rfl ?_
      refine g_iconst (pc' := 46) (v := 0) C d_Mo_lamps_45 rfl rfl ?_
      replace hf := g_bi hf; obtain ⟨⟨u1, u2, u3, u4, u5, u6, u7⟩, hc8, hf⟩ := hf
      dsimp only at hf
      refine g_callV (pc' := 49) (st1 := []) (ws1 := [O_Mo a_o x_o_code x_o_lamps u1 u2 u3 x_o_rest x_o_shy a_o_had a_o_told a_o_barred a_o_cost a_o_last a_o_often u4 x_o_doneMany x_o_undoneMany a_o_changeOf a_o_changeAt a_o_before a_o_behind a_o_tape x_o_taped x_o_here x_o_fault x_o_open x_o_laid a_o_act a_o_with a_o_lineMany a_o_testEnd a_o_lineEnd a_o_facts a_o_pile x_o_hasLaw a_o_way a_o_bestWay x_o_bestMany a_o_wasHad a_o_wasLast x_o_wasAt x_o_wasNight x_o_hasImage x_o_keptLamps x_o_keptAt x_o_keptNight x_o_keptSpent a_o_keptHad a_o_keptTold a_o_keptLast a_o_keptOften x_o_bodies a_o_kind x_o_traces a_o_traced a_o_holds a_o_size a_o_elements a_o_shifted, A_Z dA a_o_told 1024 x_o_told, A_Z dA a_o_had 1024 u5, A_I dA a_o_last 10 u6, A_I dA a_o_often 10 u7]) C (c_Mo_beginAt (l := l) (D := D) (dA := dA) (a_o := a_o) (a_o_had := a_o_had) (a_o_told := a_o_told) (a_o_barred := a_o_barred) (a_o_cost := a_o_cost) (a_o_last := a_o_last) (a_o_often := a_o_often) (a_o_changeOf := a_o_changeOf) (a_o_changeAt := a_o_changeAt) (a_o_before := a_o_before) (a_o_behind := a_o_behind) (a_o_tape := a_o_tape) (a_o_act := a_o_act) (a_o_with := a_o_with) (a_o_lineMany := a_o_lineMany) (a_o_testEnd := a_o_testEnd) (a_o_lineEnd := a_o_lineEnd) (a_o_facts := a_o_facts) (a_o_pile := a_o_pile) (a_o_way := a_o_way) (a_o_bestWay := a_o_bestWay) (a_o_wasHad := a_o_wasHad) (a_o_wasLast := a_o_wasLast) (a_o_keptHad := a_o_keptHad) (a_o_keptTold := a_o_keptTold) (a_o_keptLast := a_o_keptLast) (a_o_keptOften := a_o_keptOften) (a_o_kind := a_o_kind) (a_o_traced := a_o_traced) (a_o_holds := a_o_holds) (a_o_size := a_o_size) (a_o_elements := a_o_elements) (a_o_shifted := a_o_shifted) (x_o_code := x_o_code) (x_o_lamps := x_o_lamps) (x_o_rest := x_o_rest) (x_o_shy := x_o_shy) (x_o_doneMany := x_o_doneMany) (x_o_undoneMany := x_o_undoneMany) (x_o_taped := x_o_taped) (x_o_here := x_o_here) (x_o_fault := x_o_fault) (x_o_open := x_o_open) (x_o_laid := x_o_laid) (x_o_hasLaw := x_o_hasLaw) (x_o_bestMany := x_o_bestMany) (x_o_wasAt := x_o_wasAt) (x_o_wasNight := x_o_wasNight) (x_o_hasImage := x_o_hasImage) (x_o_keptLamps := x_o_keptLamps) (x_o_keptAt := x_o_keptAt) (x_o_keptNight := x_o_keptNight) (x_o_keptSpent := x_o_keptSpent) (x_o_bodies := x_o_bodies) (x_o_traces := x_o_traces)   hc8) yy_Mo_beginAt kf_Mo rfl mw_5_83 d_Mo_lamps_46 rfl [] rfl rfl (Nat.le_of_ble_eq_true rfl) ⟨Nat.le_of_ble_eq_true rfl, Nat.le_of_ble_eq_true rfl⟩ rfl rfl (Nat.zero_le _) (Nat.zero_le _) 0 rfl [0, 2, 3, 4] rfl (by decide +kernel) rfl (g_lay_sel _ _ _ _ [(0, true), (1, false), (1, true), (2, true), (3, true)] (by decide +kernel) rfl (by decide +kernel) rfl rfl) rfl ?_
      refine g_iload_n (pc' := 50) C 1 d_Mo_lamps_49 rfl rfl ?_
      replace hf := g_o2 hf; obtain ⟨h1, hf⟩ := hf; subst h1
      replace hf := g_o2 hf; obtain ⟨h1, hf⟩ := hf; subst h1
      replace hf := g_o2 hf; obtain ⟨h1, hf⟩ := hf; subst h1
      replace hf := g_o2 hf; obtain ⟨h1, hf⟩ := hf; subst h1
      replace hf := g_o2 hf; obtain ⟨h1, hf⟩ := hf; subst h1
      replace hf := g_o2 hf; obtain ⟨h1, hf⟩ := hf; subst h1
      replace hf := g_o2 hf; obtain ⟨h1, hf⟩ := hf; subst h1
      replace hf := g_o2 hf; obtain ⟨h1, hf⟩ := hf; subst h1
      replace hf := g_o2 hf; obtain ⟨h1, hf⟩ := hf; subst h1
      replace hf := Option.some.inj hf; subst hf
      exact g_iret C d_Mo_lamps_50 () rfl
    · replace hf := g_in h hf
      refine g_aload_n (pc' := 32) C 0 d_Mo_lamps_31 rfl rfl ?_
      refine g_get (pc' := 35) C kf_Mo 8 mw_4_146 d_Mo_lamps_32 rfl 0 rfl (by decide) rfl ?_
      refine g_iload_n (pc' := 36) C 2 d_Mo_lamps_35 rfl rfl ?_
      refine g_iconst (pc' := 37) (v := 0) C d_Mo_lamps_36 rfl rfl ?_
      have hb := g_ck hf
      replace hf := g_in hb hf
      refine g_zast (pc' := 38) (ws' := [O_Mo a_o x_o_code x_o_lamps x_o_at x_o_night x_o_spent x_o_rest x_o_shy a_o_had a_o_told a_o_barred a_o_cost a_o_last a_o_often x_o_hasBegun x_o_doneMany x_o_undoneMany a_o_changeOf a_o_changeAt a_o_before a_o_behind a_o_tape x_o_taped x_o_here x_o_fault x_o_open x_o_laid a_o_act a_o_with a_o_lineMany a_o_testEnd a_o_lineEnd a_o_facts a_o_pile x_o_hasLaw a_o_way a_o_bestWay x_o_bestMany a_o_wasHad a_o_wasLast x_o_wasAt x_o_wasNight x_o_hasImage x_o_keptLamps x_o_keptAt x_o_keptNight x_o_keptSpent a_o_keptHad a_o_keptTold a_o_keptLast a_o_keptOften x_o_bodies a_o_kind x_o_traces a_o_traced a_o_holds a_o_size a_o_elements a_o_shifted, A_Z dA a_o_told 1024 (upd x_o_told (Int32.toNatClampNeg v3) (vp_nar .boolean (0 : Int32))), A_Z dA a_o_had 1024 x_o_had, A_I dA a_o_last 10 x_o_last, A_I dA a_o_often 10 x_o_often]) C d_Mo_lamps_37 rfl 1 rfl hb rfl ?_
      refine g_iinc (pc' := 41) (j := 2) (v := (v3 + 1)) (lv' := [(3, .int (v3 + 1)), (0, .ref a_o), (2, .int v2)]) C d_Mo_lamps_38 rfl rfl rfl (by decide) rfl ?_
      refine g_goto (tgt := 24) C d_Mo_lamps_41 rfl ?_
      refine g_lv (lv' := [(0, .ref a_o), (2, .int v2), (3, .int (v3 + 1))]) [1, 2, 0] rfl ?_
      exact ih v2 (v3 + 1) x_o_lamps x_o_at x_o_night x_o_spent x_o_hasBegun (upd x_o_told (Int32.toNatClampNeg v3) (vp_nar .boolean (0 : Int32))) x_o_had x_o_last x_o_often hf
def f_Mo_lamps  (p1 : Int32) (x_o_lamps : Int32) (x_o_at : Int32) (x_o_night : Int32) (x_o_spent : Int32) (x_o_hasBegun : Bool) (x_o_told : Nat → Int32) (x_o_had : Nat → Int32) (x_o_last : Nat → Int32) (x_o_often : Nat → Int32) : Option (Int32 × Int32 × Int32 × Int32 × Int32 × Bool × (Nat → Int32) × (Nat → Int32) × (Nat → Int32) × (Nat → Int32)) :=
  (f_Mo_in  p1 (1 : Int32) (10 : Int32)).bind fun r9 =>
  if r9 = true then
    (f_Mo_lamps_L24  3000 x_o_lamps (0 : Int32) p1 x_o_at x_o_night x_o_spent x_o_hasBegun x_o_told x_o_had x_o_last x_o_often)
  else
    (some ((-1 : Int32), x_o_lamps, x_o_at, x_o_night, x_o_spent, x_o_hasBegun, x_o_told, x_o_had, x_o_last, x_o_often))
set_option maxRecDepth 20000 in
theorem c_Mo_lamps {l : Launch} {D : va_G} {dA : Nat → ClassId} {a_o a_o_had a_o_told a_o_barred a_o_cost a_o_last a_o_often a_o_changeOf a_o_changeAt a_o_before a_o_behind a_o_tape a_o_act a_o_with a_o_lineMany a_o_testEnd a_o_lineEnd a_o_facts a_o_pile a_o_way a_o_bestWay a_o_wasHad a_o_wasLast a_o_keptHad a_o_keptTold a_o_keptLast a_o_keptOften a_o_kind a_o_traced a_o_holds a_o_size a_o_elements a_o_shifted : Nat} {x_o_code : Int32} {x_o_rest : Int32} {x_o_shy : Int32} {x_o_doneMany : Int32} {x_o_undoneMany : Int32} {x_o_taped : Int32} {x_o_here : Int32} {x_o_fault : Int32} {x_o_open : Int32} {x_o_laid : Int32} {x_o_hasLaw : Bool} {x_o_bestMany : Int32} {x_o_wasAt : Int32} {x_o_wasNight : Int32} {x_o_hasImage : Bool} {x_o_keptLamps : Int32} {x_o_keptAt : Int32} {x_o_keptNight : Int32} {x_o_keptSpent : Int32} {x_o_bodies : Int32} {x_o_traces : Int32} {p1 : Int32} {x_o_lamps : Int32} {x_o_at : Int32} {x_o_night : Int32} {x_o_spent : Int32} {x_o_hasBegun : Bool} {x_o_told : Nat → Int32} {x_o_had : Nat → Int32} {x_o_last : Nat → Int32} {x_o_often : Nat → Int32} {r0 : Int32} {o_x_o_lamps : Int32} {o_x_o_at : Int32} {o_x_o_night : Int32} {o_x_o_spent : Int32} {o_x_o_hasBegun : Bool} {o_x_o_told : Nat → Int32} {o_x_o_had : Nat → Int32} {o_x_o_last : Nat → Int32} {o_x_o_often : Nat → Int32}   (hf : f_Mo_lamps  p1 x_o_lamps x_o_at x_o_night x_o_spent x_o_hasBegun x_o_told x_o_had x_o_last x_o_often = some (r0, o_x_o_lamps, o_x_o_at, o_x_o_night, o_x_o_spent, o_x_o_hasBegun, o_x_o_told, o_x_o_had, o_x_o_last, o_x_o_often)) : CT l y_Mo_lamps prog_13_method_10_code 4 (some .int) { frames := 1, cells := 0, slots := 0, locals := 22 } D dA [.ref a_o, .int p1] [O_Mo a_o x_o_code x_o_lamps x_o_at x_o_night x_o_spent x_o_rest x_o_shy a_o_had a_o_told a_o_barred a_o_cost a_o_last a_o_often x_o_hasBegun x_o_doneMany x_o_undoneMany a_o_changeOf a_o_changeAt a_o_before a_o_behind a_o_tape x_o_taped x_o_here x_o_fault x_o_open x_o_laid a_o_act a_o_with a_o_lineMany a_o_testEnd a_o_lineEnd a_o_facts a_o_pile x_o_hasLaw a_o_way a_o_bestWay x_o_bestMany a_o_wasHad a_o_wasLast x_o_wasAt x_o_wasNight x_o_hasImage x_o_keptLamps x_o_keptAt x_o_keptNight x_o_keptSpent a_o_keptHad a_o_keptTold a_o_keptLast a_o_keptOften x_o_bodies a_o_kind x_o_traces a_o_traced a_o_holds a_o_size a_o_elements a_o_shifted, A_Z dA a_o_told 1024 x_o_told, A_Z dA a_o_had 1024 x_o_had, A_I dA a_o_last 10 x_o_last, A_I dA a_o_often 10 x_o_often] (some (.int r0)) (fun _ : Unit => [O_Mo a_o x_o_code o_x_o_lamps o_x_o_at o_x_o_night o_x_o_spent x_o_rest x_o_shy a_o_had a_o_told a_o_barred a_o_cost a_o_last a_o_often o_x_o_hasBegun x_o_doneMany x_o_undoneMany a_o_changeOf a_o_changeAt a_o_before a_o_behind a_o_tape x_o_taped x_o_here x_o_fault x_o_open x_o_laid a_o_act a_o_with a_o_lineMany a_o_testEnd a_o_lineEnd a_o_facts a_o_pile x_o_hasLaw a_o_way a_o_bestWay x_o_bestMany a_o_wasHad a_o_wasLast x_o_wasAt x_o_wasNight x_o_hasImage x_o_keptLamps x_o_keptAt x_o_keptNight x_o_keptSpent a_o_keptHad a_o_keptTold a_o_keptLast a_o_keptOften x_o_bodies a_o_kind x_o_traces a_o_traced a_o_holds a_o_size a_o_elements a_o_shifted, A_Z dA a_o_told 1024 o_x_o_told, A_Z dA a_o_had 1024 o_x_o_had, A_I dA a_o_last 10 o_x_o_last, A_I dA a_o_often 10 o_x_o_often]) := by
  refine ct_intro "OneLampModel" rfl (by decide +kernel) (Nat.le_of_ble_eq_true rfl) [(0, .ref a_o), (1, .int p1)] rfl (fun _ C => ?_)
  unfold f_Mo_lamps at hf
  refine g_iload_n (pc' := 1) C 1 d_Mo_lamps_0 rfl rfl ?_
  refine g_iconst (pc' := 2) (v := 1) C d_Mo_lamps_1 rfl rfl ?_
  refine g_bipush (pc' := 4) (v := 10) C d_Mo_lamps_2 rfl rfl ?_
  replace hf := g_bi hf; obtain ⟨r9, hc10, hf⟩ := hf
  refine g_callS (pc' := 7) (st1 := [.int (b2i r9)]) (ws1 := [O_Mo a_o x_o_code x_o_lamps x_o_at x_o_night x_o_spent x_o_rest x_o_shy a_o_had a_o_told a_o_barred a_o_cost a_o_last a_o_often x_o_hasBegun x_o_doneMany x_o_undoneMany a_o_changeOf a_o_changeAt a_o_before a_o_behind a_o_tape x_o_taped x_o_here x_o_fault x_o_open x_o_laid a_o_act a_o_with a_o_lineMany a_o_testEnd a_o_lineEnd a_o_facts a_o_pile x_o_hasLaw a_o_way a_o_bestWay x_o_bestMany a_o_wasHad a_o_wasLast x_o_wasAt x_o_wasNight x_o_hasImage x_o_keptLamps x_o_keptAt x_o_keptNight x_o_keptSpent a_o_keptHad a_o_keptTold a_o_keptLast a_o_keptOften x_o_bodies a_o_kind x_o_traces a_o_traced a_o_holds a_o_size a_o_elements a_o_shifted, A_Z dA a_o_told 1024 x_o_told, A_Z dA a_o_had 1024 x_o_had, A_I dA a_o_last 10 x_o_last, A_I dA a_o_often 10 x_o_often]) C (c_Mo_in (l := l) (D := D) (dA := dA)    hc10) yy_Mo_in mw_5_80 d_Mo_lamps_4 rfl [] rfl rfl (Nat.le_of_ble_eq_true rfl) ⟨Nat.le_of_ble_eq_true rfl, Nat.le_of_ble_eq_true rfl⟩ rfl rfl (Nat.zero_le _) (Nat.zero_le _) [] rfl (by decide +kernel) rfl (g_lay_sel _ _ _ _ [(0, false), (1, false), (2, false), (3, false), (4, false)] (by decide +kernel) rfl (by decide +kernel) rfl rfl) rfl ?_
  refine g_if_neb (pc' := 10) (tgt := 12) C d_Mo_lamps_7 rfl rfl (fun h => ?_) (fun h => ?_)
  · replace hf := g_bt h hf
    refine g_aload_n (pc' := 13) C 0 d_Mo_lamps_12 rfl rfl ?_
    refine g_get (pc' := 16) C kf_Mo 1 mw_4_139 d_Mo_lamps_13 rfl 0 rfl (by decide) rfl ?_
    refine g_istore_n (pc' := 17) (lv' := [(2, .int x_o_lamps), (0, .ref a_o), (1, .int p1)]) C d_Mo_lamps_16 rfl (by decide) rfl ?_
    refine g_aload_n (pc' := 18) C 1 d_Mo_lamps_17 rfl rfl ?_
    refine g_iload_n (pc' := 19) C 2 d_Mo_lamps_18 rfl rfl ?_
    refine g_put (pc' := 22) (ws' := [O_Mo a_o x_o_code p1 x_o_at x_o_night x_o_spent x_o_rest x_o_shy a_o_had a_o_told a_o_barred a_o_cost a_o_last a_o_often x_o_hasBegun x_o_doneMany x_o_undoneMany a_o_changeOf a_o_changeAt a_o_before a_o_behind a_o_tape x_o_taped x_o_here x_o_fault x_o_open x_o_laid a_o_act a_o_with a_o_lineMany a_o_testEnd a_o_lineEnd a_o_facts a_o_pile x_o_hasLaw a_o_way a_o_bestWay x_o_bestMany a_o_wasHad a_o_wasLast x_o_wasAt x_o_wasNight x_o_hasImage x_o_keptLamps x_o_keptAt x_o_keptNight x_o_keptSpent a_o_keptHad a_o_keptTold a_o_keptLast a_o_keptOften x_o_bodies a_o_kind x_o_traces a_o_traced a_o_holds a_o_size a_o_elements a_o_shifted, A_Z dA a_o_told 1024 x_o_told, A_Z dA a_o_had 1024 x_o_had, A_I dA a_o_last 10 x_o_last, A_I dA a_o_often 10 x_o_often]) C kf_Mo 1 mw_4_139 d_Mo_lamps_19 rfl 0 rfl (by decide) rfl rfl rfl (Nat.le_of_ble_eq_true rfl) rfl ?_
    refine g_iconst (pc' := 23) (v := 0) C d_Mo_lamps_22 rfl rfl ?_
    refine g_istore_n (pc' := 24) (lv' := [(3, .int 0), (2, .int x_o_lamps), (0, .ref a_o), (1, .int p1)]) C d_Mo_lamps_23 rfl (by decide) rfl ?_
    refine g_lv (lv' := [(0, .ref a_o), (2, .int x_o_lamps), (3, .int (0 : Int32))]) [2, 1, 0] rfl ?_
    exact w_Mo_lamps_L24 (a_o := a_o) (a_o_had := a_o_had) (a_o_told := a_o_told) (a_o_barred := a_o_barred) (a_o_cost := a_o_cost) (a_o_last := a_o_last) (a_o_often := a_o_often) (a_o_changeOf := a_o_changeOf) (a_o_changeAt := a_o_changeAt) (a_o_before := a_o_before) (a_o_behind := a_o_behind) (a_o_tape := a_o_tape) (a_o_act := a_o_act) (a_o_with := a_o_with) (a_o_lineMany := a_o_lineMany) (a_o_testEnd := a_o_testEnd) (a_o_lineEnd := a_o_lineEnd) (a_o_facts := a_o_facts) (a_o_pile := a_o_pile) (a_o_way := a_o_way) (a_o_bestWay := a_o_bestWay) (a_o_wasHad := a_o_wasHad) (a_o_wasLast := a_o_wasLast) (a_o_keptHad := a_o_keptHad) (a_o_keptTold := a_o_keptTold) (a_o_keptLast := a_o_keptLast) (a_o_keptOften := a_o_keptOften) (a_o_kind := a_o_kind) (a_o_traced := a_o_traced) (a_o_holds := a_o_holds) (a_o_size := a_o_size) (a_o_elements := a_o_elements) (a_o_shifted := a_o_shifted) C   3000 x_o_lamps (0 : Int32) p1 x_o_at x_o_night x_o_spent x_o_hasBegun x_o_told x_o_had x_o_last x_o_often hf
  · replace hf := g_bf h hf
    refine g_iconst (pc' := 11) (v := (-1)) C d_Mo_lamps_10 rfl rfl ?_
    replace hf := g_o2 hf; obtain ⟨h1, hf⟩ := hf; subst h1
    replace hf := g_o2 hf; obtain ⟨h1, hf⟩ := hf; subst h1
    replace hf := g_o2 hf; obtain ⟨h1, hf⟩ := hf; subst h1
    replace hf := g_o2 hf; obtain ⟨h1, hf⟩ := hf; subst h1
    replace hf := g_o2 hf; obtain ⟨h1, hf⟩ := hf; subst h1
    replace hf := g_o2 hf; obtain ⟨h1, hf⟩ := hf; subst h1
    replace hf := g_o2 hf; obtain ⟨h1, hf⟩ := hf; subst h1
    replace hf := g_o2 hf; obtain ⟨h1, hf⟩ := hf; subst h1
    replace hf := g_o2 hf; obtain ⟨h1, hf⟩ := hf; subst h1
    replace hf := Option.some.inj hf; subst hf
    exact g_iret C d_Mo_lamps_11 () rfl
def y_Mo_begin : MethodName := ⟨"OneLampModel", "begin", "(I)I"⟩
theorem yy_Mo_begin : YV y_Mo_begin prog_13_method_11_code 2 (some .int) 1 := ⟨mw_5_90, mw_1_12, mw_5_88, mw_5_89, by decide +kernel, by decide +kernel, by decide +kernel⟩
theorem d_Mo_begin_0 : decode prog_13_method_11_code 0 = .ok (.aload_n 0, 1) := by decide +kernel
theorem d_Mo_begin_1 : decode prog_13_method_11_code 1 = .ok (.iload_n 1, 1) := by decide +kernel
theorem d_Mo_begin_2 : decode prog_13_method_11_code 2 = .ok (.invokevirtual 142, 3) := by decide +kernel
theorem d_Mo_begin_5 : decode prog_13_method_11_code 5 = .ok (.ifCond .ne 5, 3) := by decide +kernel
theorem d_Mo_begin_8 : decode prog_13_method_11_code 8 = .ok (.iconst (-1), 1) := by decide +kernel
theorem d_Mo_begin_9 : decode prog_13_method_11_code 9 = .ok (.ireturn, 1) := by decide +kernel
theorem d_Mo_begin_10 : decode prog_13_method_11_code 10 = .ok (.aload_n 0, 1) := by decide +kernel
theorem d_Mo_begin_11 : decode prog_13_method_11_code 11 = .ok (.iload_n 1, 1) := by decide +kernel
theorem d_Mo_begin_12 : decode prog_13_method_11_code 12 = .ok (.invokevirtual 138, 3) := by decide +kernel
theorem d_Mo_begin_15 : decode prog_13_method_11_code 15 = .ok (.iload_n 1, 1) := by decide +kernel
theorem d_Mo_begin_16 : decode prog_13_method_11_code 16 = .ok (.ireturn, 1) := by decide +kernel
def f_Mo_begin  (p1 : Int32) (x_o_lamps : Int32) (x_o_at : Int32) (x_o_night : Int32) (x_o_spent : Int32) (x_o_hasBegun : Bool) (x_o_had : Nat → Int32) (x_o_last : Nat → Int32) (x_o_often : Nat → Int32) : Option (Int32 × Int32 × Int32 × Int32 × Bool × (Nat → Int32) × (Nat → Int32) × (Nat → Int32)) :=
  (f_Mo_isPicture  p1 x_o_lamps).bind fun r1 =>
  if r1 = true then
    ((f_Mo_beginAt  p1 x_o_at x_o_night x_o_spent x_o_hasBegun x_o_had x_o_last x_o_often).bind fun (u3, u4, u5, u6, u7, u8, u9) =>
    some (p1, u3, u4, u5, u6, u7, u8, u9))
  else
    (some ((-1 : Int32), x_o_at, x_o_night, x_o_spent, x_o_hasBegun, x_o_had, x_o_last, x_o_often))
set_option maxRecDepth 20000 in
theorem c_Mo_begin {l : Launch} {D : va_G} {dA : Nat → ClassId} {a_o a_o_had a_o_told a_o_barred a_o_cost a_o_last a_o_often a_o_changeOf a_o_changeAt a_o_before a_o_behind a_o_tape a_o_act a_o_with a_o_lineMany a_o_testEnd a_o_lineEnd a_o_facts a_o_pile a_o_way a_o_bestWay a_o_wasHad a_o_wasLast a_o_keptHad a_o_keptTold a_o_keptLast a_o_keptOften a_o_kind a_o_traced a_o_holds a_o_size a_o_elements a_o_shifted : Nat} {x_o_code : Int32} {x_o_rest : Int32} {x_o_shy : Int32} {x_o_doneMany : Int32} {x_o_undoneMany : Int32} {x_o_taped : Int32} {x_o_here : Int32} {x_o_fault : Int32} {x_o_open : Int32} {x_o_laid : Int32} {x_o_hasLaw : Bool} {x_o_bestMany : Int32} {x_o_wasAt : Int32} {x_o_wasNight : Int32} {x_o_hasImage : Bool} {x_o_keptLamps : Int32} {x_o_keptAt : Int32} {x_o_keptNight : Int32} {x_o_keptSpent : Int32} {x_o_bodies : Int32} {x_o_traces : Int32} {p1 : Int32} {x_o_lamps : Int32} {x_o_at : Int32} {x_o_night : Int32} {x_o_spent : Int32} {x_o_hasBegun : Bool} {x_o_had : Nat → Int32} {x_o_last : Nat → Int32} {x_o_often : Nat → Int32} {r0 : Int32} {o_x_o_at : Int32} {o_x_o_night : Int32} {o_x_o_spent : Int32} {o_x_o_hasBegun : Bool} {o_x_o_had : Nat → Int32} {o_x_o_last : Nat → Int32} {o_x_o_often : Nat → Int32}   (hf : f_Mo_begin  p1 x_o_lamps x_o_at x_o_night x_o_spent x_o_hasBegun x_o_had x_o_last x_o_often = some (r0, o_x_o_at, o_x_o_night, o_x_o_spent, o_x_o_hasBegun, o_x_o_had, o_x_o_last, o_x_o_often)) : CT l y_Mo_begin prog_13_method_11_code 2 (some .int) { frames := 2, cells := 0, slots := 0, locals := 43 } D dA [.ref a_o, .int p1] [O_Mo a_o x_o_code x_o_lamps x_o_at x_o_night x_o_spent x_o_rest x_o_shy a_o_had a_o_told a_o_barred a_o_cost a_o_last a_o_often x_o_hasBegun x_o_doneMany x_o_undoneMany a_o_changeOf a_o_changeAt a_o_before a_o_behind a_o_tape x_o_taped x_o_here x_o_fault x_o_open x_o_laid a_o_act a_o_with a_o_lineMany a_o_testEnd a_o_lineEnd a_o_facts a_o_pile x_o_hasLaw a_o_way a_o_bestWay x_o_bestMany a_o_wasHad a_o_wasLast x_o_wasAt x_o_wasNight x_o_hasImage x_o_keptLamps x_o_keptAt x_o_keptNight x_o_keptSpent a_o_keptHad a_o_keptTold a_o_keptLast a_o_keptOften x_o_bodies a_o_kind x_o_traces a_o_traced a_o_holds a_o_size a_o_elements a_o_shifted, A_Z dA a_o_had 1024 x_o_had, A_I dA a_o_last 10 x_o_last, A_I dA a_o_often 10 x_o_often] (some (.int r0)) (fun _ : Unit => [O_Mo a_o x_o_code x_o_lamps o_x_o_at o_x_o_night o_x_o_spent x_o_rest x_o_shy a_o_had a_o_told a_o_barred a_o_cost a_o_last a_o_often o_x_o_hasBegun x_o_doneMany x_o_undoneMany a_o_changeOf a_o_changeAt a_o_before a_o_behind a_o_tape x_o_taped x_o_here x_o_fault x_o_open x_o_laid a_o_act a_o_with a_o_lineMany a_o_testEnd a_o_lineEnd a_o_facts a_o_pile x_o_hasLaw a_o_way a_o_bestWay x_o_bestMany a_o_wasHad a_o_wasLast x_o_wasAt x_o_wasNight x_o_hasImage x_o_keptLamps x_o_keptAt x_o_keptNight x_o_keptSpent a_o_keptHad a_o_keptTold a_o_keptLast a_o_keptOften x_o_bodies a_o_kind x_o_traces a_o_traced a_o_holds a_o_size a_o_elements a_o_shifted, A_Z dA a_o_had 1024 o_x_o_had, A_I dA a_o_last 10 o_x_o_last, A_I dA a_o_often 10 o_x_o_often]) := by
  refine ct_intro "OneLampModel" rfl (by decide +kernel) (Nat.le_of_ble_eq_true rfl) [(0, .ref a_o), (1, .int p1)] rfl (fun _ C => ?_)
  unfold f_Mo_begin at hf
  refine g_aload_n (pc' := 1) C 0 d_Mo_begin_0 rfl rfl ?_
  refine g_iload_n (pc' := 2) C 1 d_Mo_begin_1 rfl rfl ?_
  replace hf := g_bi hf; obtain ⟨r1, hc2, hf⟩ := hf
  refine g_callV (pc' := 5) (st1 := [.int (b2i r1)]) (ws1 := [O_Mo a_o x_o_code x_o_lamps x_o_at x_o_night x_o_spent x_o_rest x_o_shy a_o_had a_o_told a_o_barred a_o_cost a_o_last a_o_often x_o_hasBegun x_o_doneMany x_o_undoneMany a_o_changeOf a_o_changeAt a_o_before a_o_behind a_o_tape x_o_taped x_o_here x_o_fault x_o_open x_o_laid a_o_act a_o_with a_o_lineMany a_o_testEnd a_o_lineEnd a_o_facts a_o_pile x_o_hasLaw a_o_way a_o_bestWay x_o_bestMany a_o_wasHad a_o_wasLast x_o_wasAt x_o_wasNight x_o_hasImage x_o_keptLamps x_o_keptAt x_o_keptNight x_o_keptSpent a_o_keptHad a_o_keptTold a_o_keptLast a_o_keptOften x_o_bodies a_o_kind x_o_traces a_o_traced a_o_holds a_o_size a_o_elements a_o_shifted, A_Z dA a_o_had 1024 x_o_had, A_I dA a_o_last 10 x_o_last, A_I dA a_o_often 10 x_o_often]) C (c_Mo_isPicture (l := l) (D := D) (dA := dA) (a_o := a_o) (a_o_had := a_o_had) (a_o_told := a_o_told) (a_o_barred := a_o_barred) (a_o_cost := a_o_cost) (a_o_last := a_o_last) (a_o_often := a_o_often) (a_o_changeOf := a_o_changeOf) (a_o_changeAt := a_o_changeAt) (a_o_before := a_o_before) (a_o_behind := a_o_behind) (a_o_tape := a_o_tape) (a_o_act := a_o_act) (a_o_with := a_o_with) (a_o_lineMany := a_o_lineMany) (a_o_testEnd := a_o_testEnd) (a_o_lineEnd := a_o_lineEnd) (a_o_facts := a_o_facts) (a_o_pile := a_o_pile) (a_o_way := a_o_way) (a_o_bestWay := a_o_bestWay) (a_o_wasHad := a_o_wasHad) (a_o_wasLast := a_o_wasLast) (a_o_keptHad := a_o_keptHad) (a_o_keptTold := a_o_keptTold) (a_o_keptLast := a_o_keptLast) (a_o_keptOften := a_o_keptOften) (a_o_kind := a_o_kind) (a_o_traced := a_o_traced) (a_o_holds := a_o_holds) (a_o_size := a_o_size) (a_o_elements := a_o_elements) (a_o_shifted := a_o_shifted) (x_o_code := x_o_code) (x_o_at := x_o_at) (x_o_night := x_o_night) (x_o_spent := x_o_spent) (x_o_rest := x_o_rest) (x_o_shy := x_o_shy) (x_o_hasBegun := x_o_hasBegun) (x_o_doneMany := x_o_doneMany) (x_o_undoneMany := x_o_undoneMany) (x_o_taped := x_o_taped) (x_o_here := x_o_here) (x_o_fault := x_o_fault) (x_o_open := x_o_open) (x_o_laid := x_o_laid) (x_o_hasLaw := x_o_hasLaw) (x_o_bestMany := x_o_bestMany) (x_o_wasAt := x_o_wasAt) (x_o_wasNight := x_o_wasNight) (x_o_hasImage := x_o_hasImage) (x_o_keptLamps := x_o_keptLamps) (x_o_keptAt := x_o_keptAt) (x_o_keptNight := x_o_keptNight) (x_o_keptSpent := x_o_keptSpent) (x_o_bodies := x_o_bodies) (x_o_traces := x_o_traces)   hc2) yy_Mo_isPicture kf_Mo rfl mw_5_91 d_Mo_begin_2 rfl [] rfl rfl (Nat.le_of_ble_eq_true rfl) ⟨Nat.le_of_ble_eq_true rfl, Nat.le_of_ble_eq_true rfl⟩ rfl rfl (Nat.zero_le _) (Nat.zero_le _) 0 rfl [0] rfl (by decide +kernel) rfl (g_lay_sel _ _ _ _ [(0, true), (1, false), (2, false), (3, false)] (by decide +kernel) rfl (by decide +kernel) rfl rfl) rfl ?_
  refine g_if_neb (pc' := 8) (tgt := 10) C d_Mo_begin_5 rfl rfl (fun h => ?_) (fun h => ?_)
  · replace hf := g_bt h hf
    refine g_aload_n (pc' := 11) C 0 d_Mo_begin_10 rfl rfl ?_
    refine g_iload_n (pc' := 12) C 1 d_Mo_begin_11 rfl rfl ?_
    replace hf := g_bi hf; obtain ⟨⟨u3, u4, u5, u6, u7, u8, u9⟩, hc10, hf⟩ := hf
    dsimp only at hf
    refine g_callV (pc' := 15) (st1 := []) (ws1 := [O_Mo a_o x_o_code x_o_lamps u3 u4 u5 x_o_rest x_o_shy a_o_had a_o_told a_o_barred a_o_cost a_o_last a_o_often u6 x_o_doneMany x_o_undoneMany a_o_changeOf a_o_changeAt a_o_before a_o_behind a_o_tape x_o_taped x_o_here x_o_fault x_o_open x_o_laid a_o_act a_o_with a_o_lineMany a_o_testEnd a_o_lineEnd a_o_facts a_o_pile x_o_hasLaw a_o_way a_o_bestWay x_o_bestMany a_o_wasHad a_o_wasLast x_o_wasAt x_o_wasNight x_o_hasImage x_o_keptLamps x_o_keptAt x_o_keptNight x_o_keptSpent a_o_keptHad a_o_keptTold a_o_keptLast a_o_keptOften x_o_bodies a_o_kind x_o_traces a_o_traced a_o_holds a_o_size a_o_elements a_o_shifted, A_Z dA a_o_had 1024 u7, A_I dA a_o_last 10 u8, A_I dA a_o_often 10 u9]) C (c_Mo_beginAt (l := l) (D := D) (dA := dA) (a_o := a_o) (a_o_had := a_o_had) (a_o_told := a_o_told) (a_o_barred := a_o_barred) (a_o_cost := a_o_cost) (a_o_last := a_o_last) (a_o_often := a_o_often) (a_o_changeOf := a_o_changeOf) (a_o_changeAt := a_o_changeAt) (a_o_before := a_o_before) (a_o_behind := a_o_behind) (a_o_tape := a_o_tape) (a_o_act := a_o_act) (a_o_with := a_o_with) (a_o_lineMany := a_o_lineMany) (a_o_testEnd := a_o_testEnd) (a_o_lineEnd := a_o_lineEnd) (a_o_facts := a_o_facts) (a_o_pile := a_o_pile) (a_o_way := a_o_way) (a_o_bestWay := a_o_bestWay) (a_o_wasHad := a_o_wasHad) (a_o_wasLast := a_o_wasLast) (a_o_keptHad := a_o_keptHad) (a_o_keptTold := a_o_keptTold) (a_o_keptLast := a_o_keptLast) (a_o_keptOften := a_o_keptOften) (a_o_kind := a_o_kind) (a_o_traced := a_o_traced) (a_o_holds := a_o_holds) (a_o_size := a_o_size) (a_o_elements := a_o_elements) (a_o_shifted := a_o_shifted) (x_o_code := x_o_code) (x_o_lamps := x_o_lamps) (x_o_rest := x_o_rest) (x_o_shy := x_o_shy) (x_o_doneMany := x_o_doneMany) (x_o_undoneMany := x_o_undoneMany) (x_o_taped := x_o_taped) (x_o_here := x_o_here) (x_o_fault := x_o_fault) (x_o_open := x_o_open) (x_o_laid := x_o_laid) (x_o_hasLaw := x_o_hasLaw) (x_o_bestMany := x_o_bestMany) (x_o_wasAt := x_o_wasAt) (x_o_wasNight := x_o_wasNight) (x_o_hasImage := x_o_hasImage) (x_o_keptLamps := x_o_keptLamps) (x_o_keptAt := x_o_keptAt) (x_o_keptNight := x_o_keptNight) (x_o_keptSpent := x_o_keptSpent) (x_o_bodies := x_o_bodies) (x_o_traces := x_o_traces)   hc10) yy_Mo_beginAt kf_Mo rfl mw_5_83 d_Mo_begin_12 rfl [] rfl rfl (Nat.le_of_ble_eq_true rfl) ⟨Nat.le_of_ble_eq_true rfl, Nat.le_of_ble_eq_true rfl⟩ rfl rfl (Nat.zero_le _) (Nat.zero_le _) 0 rfl [0, 1, 2, 3] rfl (by decide +kernel) rfl (g_lay_sel _ _ _ _ [(0, true), (1, true), (2, true), (3, true)] (by decide +kernel) rfl (by decide +kernel) rfl rfl) rfl ?_
    refine g_iload_n (pc' := 16) C 1 d_Mo_begin_15 rfl rfl ?_
    replace hf := g_o2 hf; obtain ⟨h1, hf⟩ := hf; subst h1
    replace hf := g_o2 hf; obtain ⟨h1, hf⟩ := hf; subst h1
    replace hf := g_o2 hf; obtain ⟨h1, hf⟩ := hf; subst h1
    replace hf := g_o2 hf; obtain ⟨h1, hf⟩ := hf; subst h1
    replace hf := g_o2 hf; obtain ⟨h1, hf⟩ := hf; subst h1
    replace hf := g_o2 hf; obtain ⟨h1, hf⟩ := hf; subst h1
    replace hf := g_o2 hf; obtain ⟨h1, hf⟩ := hf; subst h1
    replace hf := Option.some.inj hf; subst hf
    exact g_iret C d_Mo_begin_16 () rfl
  · replace hf := g_bf h hf
    refine g_iconst (pc' := 9) (v := (-1)) C d_Mo_begin_8 rfl rfl ?_
    replace hf := g_o2 hf; obtain ⟨h1, hf⟩ := hf; subst h1
    replace hf := g_o2 hf; obtain ⟨h1, hf⟩ := hf; subst h1
    replace hf := g_o2 hf; obtain ⟨h1, hf⟩ := hf; subst h1
    replace hf := g_o2 hf; obtain ⟨h1, hf⟩ := hf; subst h1
    replace hf := g_o2 hf; obtain ⟨h1, hf⟩ := hf; subst h1
    replace hf := g_o2 hf; obtain ⟨h1, hf⟩ := hf; subst h1
    replace hf := g_o2 hf; obtain ⟨h1, hf⟩ := hf; subst h1
    replace hf := Option.some.inj hf; subst hf
    exact g_iret C d_Mo_begin_9 () rfl
def y_Mo_bar : MethodName := ⟨"OneLampModel", "bar", "(I)I"⟩
theorem yy_Mo_bar : YV y_Mo_bar prog_13_method_12_code 2 (some .int) 1 := ⟨mw_5_102, mw_1_12, mw_5_100, mw_5_101, by decide +kernel, by decide +kernel, by decide +kernel⟩
theorem d_Mo_bar_0 : decode prog_13_method_12_code 0 = .ok (.aload_n 0, 1) := by decide +kernel
theorem d_Mo_bar_1 : decode prog_13_method_12_code 1 = .ok (.iload_n 1, 1) := by decide +kernel
theorem d_Mo_bar_2 : decode prog_13_method_12_code 2 = .ok (.invokevirtual 142, 3) := by decide +kernel
theorem d_Mo_bar_5 : decode prog_13_method_12_code 5 = .ok (.ifCond .ne 5, 3) := by decide +kernel
theorem d_Mo_bar_8 : decode prog_13_method_12_code 8 = .ok (.iconst (-1), 1) := by decide +kernel
theorem d_Mo_bar_9 : decode prog_13_method_12_code 9 = .ok (.ireturn, 1) := by decide +kernel
theorem d_Mo_bar_10 : decode prog_13_method_12_code 10 = .ok (.aload_n 0, 1) := by decide +kernel
theorem d_Mo_bar_11 : decode prog_13_method_12_code 11 = .ok (.getfield 17, 3) := by decide +kernel
theorem d_Mo_bar_14 : decode prog_13_method_12_code 14 = .ok (.iload_n 1, 1) := by decide +kernel
theorem d_Mo_bar_15 : decode prog_13_method_12_code 15 = .ok (.baload, 1) := by decide +kernel
theorem d_Mo_bar_16 : decode prog_13_method_12_code 16 = .ok (.ifCond .eq 5, 3) := by decide +kernel
theorem d_Mo_bar_19 : decode prog_13_method_12_code 19 = .ok (.iconst 0, 1) := by decide +kernel
theorem d_Mo_bar_20 : decode prog_13_method_12_code 20 = .ok (.ireturn, 1) := by decide +kernel
theorem d_Mo_bar_21 : decode prog_13_method_12_code 21 = .ok (.aload_n 0, 1) := by decide +kernel
theorem d_Mo_bar_22 : decode prog_13_method_12_code 22 = .ok (.getfield 17, 3) := by decide +kernel
theorem d_Mo_bar_25 : decode prog_13_method_12_code 25 = .ok (.iload_n 1, 1) := by decide +kernel
theorem d_Mo_bar_26 : decode prog_13_method_12_code 26 = .ok (.iconst 1, 1) := by decide +kernel
theorem d_Mo_bar_27 : decode prog_13_method_12_code 27 = .ok (.bastore, 1) := by decide +kernel
theorem d_Mo_bar_28 : decode prog_13_method_12_code 28 = .ok (.iconst 1, 1) := by decide +kernel
theorem d_Mo_bar_29 : decode prog_13_method_12_code 29 = .ok (.ireturn, 1) := by decide +kernel
def f_Mo_bar  (p1 : Int32) (x_o_lamps : Int32) (x_o_told : Nat → Int32) : Option (Int32 × (Nat → Int32)) :=
  (f_Mo_isPicture  p1 x_o_lamps).bind fun r1 =>
  if r1 = true then
    (if p1 < 0 ∨ 1024 ≤ Int32.toNatClampNeg p1 then none else
    if (x_o_told (Int32.toNatClampNeg p1)) = 0 then
      (if p1 < 0 ∨ 1024 ≤ Int32.toNatClampNeg p1 then none else
      some ((1 : Int32), (upd x_o_told (Int32.toNatClampNeg p1) (vp_nar .boolean (1 : Int32)))))
    else
      (some ((0 : Int32), x_o_told)))
  else
    (some ((-1 : Int32), x_o_told))
set_option maxRecDepth 20000 in
theorem c_Mo_bar {l : Launch} {D : va_G} {dA : Nat → ClassId} {a_o a_o_had a_o_told a_o_barred a_o_cost a_o_last a_o_often a_o_changeOf a_o_changeAt a_o_before a_o_behind a_o_tape a_o_act a_o_with a_o_lineMany a_o_testEnd a_o_lineEnd a_o_facts a_o_pile a_o_way a_o_bestWay a_o_wasHad a_o_wasLast a_o_keptHad a_o_keptTold a_o_keptLast a_o_keptOften a_o_kind a_o_traced a_o_holds a_o_size a_o_elements a_o_shifted : Nat} {x_o_code : Int32} {x_o_at : Int32} {x_o_night : Int32} {x_o_spent : Int32} {x_o_rest : Int32} {x_o_shy : Int32} {x_o_hasBegun : Bool} {x_o_doneMany : Int32} {x_o_undoneMany : Int32} {x_o_taped : Int32} {x_o_here : Int32} {x_o_fault : Int32} {x_o_open : Int32} {x_o_laid : Int32} {x_o_hasLaw : Bool} {x_o_bestMany : Int32} {x_o_wasAt : Int32} {x_o_wasNight : Int32} {x_o_hasImage : Bool} {x_o_keptLamps : Int32} {x_o_keptAt : Int32} {x_o_keptNight : Int32} {x_o_keptSpent : Int32} {x_o_bodies : Int32} {x_o_traces : Int32} {p1 : Int32} {x_o_lamps : Int32} {x_o_told : Nat → Int32} {r0 : Int32} {o_x_o_told : Nat → Int32}   (hf : f_Mo_bar  p1 x_o_lamps x_o_told = some (r0, o_x_o_told)) : CT l y_Mo_bar prog_13_method_12_code 2 (some .int) { frames := 2, cells := 0, slots := 0, locals := 43 } D dA [.ref a_o, .int p1] [O_Mo a_o x_o_code x_o_lamps x_o_at x_o_night x_o_spent x_o_rest x_o_shy a_o_had a_o_told a_o_barred a_o_cost a_o_last a_o_often x_o_hasBegun x_o_doneMany x_o_undoneMany a_o_changeOf a_o_changeAt a_o_before a_o_behind a_o_tape x_o_taped x_o_here x_o_fault x_o_open x_o_laid a_o_act a_o_with a_o_lineMany a_o_testEnd a_o_lineEnd a_o_facts a_o_pile x_o_hasLaw a_o_way a_o_bestWay x_o_bestMany a_o_wasHad a_o_wasLast x_o_wasAt x_o_wasNight x_o_hasImage x_o_keptLamps x_o_keptAt x_o_keptNight x_o_keptSpent a_o_keptHad a_o_keptTold a_o_keptLast a_o_keptOften x_o_bodies a_o_kind x_o_traces a_o_traced a_o_holds a_o_size a_o_elements a_o_shifted, A_Z dA a_o_told 1024 x_o_told] (some (.int r0)) (fun _ : Unit => [O_Mo a_o x_o_code x_o_lamps x_o_at x_o_night x_o_spent x_o_rest x_o_shy a_o_had a_o_told a_o_barred a_o_cost a_o_last a_o_often x_o_hasBegun x_o_doneMany x_o_undoneMany a_o_changeOf a_o_changeAt a_o_before a_o_behind a_o_tape x_o_taped x_o_here x_o_fault x_o_open x_o_laid a_o_act a_o_with a_o_lineMany a_o_testEnd a_o_lineEnd a_o_facts a_o_pile x_o_hasLaw a_o_way a_o_bestWay x_o_bestMany a_o_wasHad a_o_wasLast x_o_wasAt x_o_wasNight x_o_hasImage x_o_keptLamps x_o_keptAt x_o_keptNight x_o_keptSpent a_o_keptHad a_o_keptTold a_o_keptLast a_o_keptOften x_o_bodies a_o_kind x_o_traces a_o_traced a_o_holds a_o_size a_o_elements a_o_shifted, A_Z dA a_o_told 1024 o_x_o_told]) := by
  refine ct_intro "OneLampModel" rfl (by decide +kernel) (Nat.le_of_ble_eq_true rfl) [(0, .ref a_o), (1, .int p1)] rfl (fun _ C => ?_)
  unfold f_Mo_bar at hf
  refine g_aload_n (pc' := 1) C 0 d_Mo_bar_0 rfl rfl ?_
  refine g_iload_n (pc' := 2) C 1 d_Mo_bar_1 rfl rfl ?_
  replace hf := g_bi hf; obtain ⟨r1, hc2, hf⟩ := hf
  refine g_callV (pc' := 5) (st1 := [.int (b2i r1)]) (ws1 := [O_Mo a_o x_o_code x_o_lamps x_o_at x_o_night x_o_spent x_o_rest x_o_shy a_o_had a_o_told a_o_barred a_o_cost a_o_last a_o_often x_o_hasBegun x_o_doneMany x_o_undoneMany a_o_changeOf a_o_changeAt a_o_before a_o_behind a_o_tape x_o_taped x_o_here x_o_fault x_o_open x_o_laid a_o_act a_o_with a_o_lineMany a_o_testEnd a_o_lineEnd a_o_facts a_o_pile x_o_hasLaw a_o_way a_o_bestWay x_o_bestMany a_o_wasHad a_o_wasLast x_o_wasAt x_o_wasNight x_o_hasImage x_o_keptLamps x_o_keptAt x_o_keptNight x_o_keptSpent a_o_keptHad a_o_keptTold a_o_keptLast a_o_keptOften x_o_bodies a_o_kind x_o_traces a_o_traced a_o_holds a_o_size a_o_elements a_o_shifted, A_Z dA a_o_told 1024 x_o_told]) C (c_Mo_isPicture (l := l) (D := D) (dA := dA) (a_o := a_o) (a_o_had := a_o_had) (a_o_told := a_o_told) (a_o_barred := a_o_barred) (a_o_cost := a_o_cost) (a_o_last := a_o_last) (a_o_often := a_o_often) (a_o_changeOf := a_o_changeOf) (a_o_changeAt := a_o_changeAt) (a_o_before := a_o_before) (a_o_behind := a_o_behind) (a_o_tape := a_o_tape) (a_o_act := a_o_act) (a_o_with := a_o_with) (a_o_lineMany := a_o_lineMany) (a_o_testEnd := a_o_testEnd) (a_o_lineEnd := a_o_lineEnd) (a_o_facts := a_o_facts) (a_o_pile := a_o_pile) (a_o_way := a_o_way) (a_o_bestWay := a_o_bestWay) (a_o_wasHad := a_o_wasHad) (a_o_wasLast := a_o_wasLast) (a_o_keptHad := a_o_keptHad) (a_o_keptTold := a_o_keptTold) (a_o_keptLast := a_o_keptLast) (a_o_keptOften := a_o_keptOften) (a_o_kind := a_o_kind) (a_o_traced := a_o_traced) (a_o_holds := a_o_holds) (a_o_size := a_o_size) (a_o_elements := a_o_elements) (a_o_shifted := a_o_shifted) (x_o_code := x_o_code) (x_o_at := x_o_at) (x_o_night := x_o_night) (x_o_spent := x_o_spent) (x_o_rest := x_o_rest) (x_o_shy := x_o_shy) (x_o_hasBegun := x_o_hasBegun) (x_o_doneMany := x_o_doneMany) (x_o_undoneMany := x_o_undoneMany) (x_o_taped := x_o_taped) (x_o_here := x_o_here) (x_o_fault := x_o_fault) (x_o_open := x_o_open) (x_o_laid := x_o_laid) (x_o_hasLaw := x_o_hasLaw) (x_o_bestMany := x_o_bestMany) (x_o_wasAt := x_o_wasAt) (x_o_wasNight := x_o_wasNight) (x_o_hasImage := x_o_hasImage) (x_o_keptLamps := x_o_keptLamps) (x_o_keptAt := x_o_keptAt) (x_o_keptNight := x_o_keptNight) (x_o_keptSpent := x_o_keptSpent) (x_o_bodies := x_o_bodies) (x_o_traces := x_o_traces)   hc2) yy_Mo_isPicture kf_Mo rfl mw_5_91 d_Mo_bar_2 rfl [] rfl rfl (Nat.le_of_ble_eq_true rfl) ⟨Nat.le_of_ble_eq_true rfl, Nat.le_of_ble_eq_true rfl⟩ rfl rfl (Nat.zero_le _) (Nat.zero_le _) 0 rfl [0] rfl (by decide +kernel) rfl (g_lay_sel _ _ _ _ [(0, true), (1, false)] (by decide +kernel) rfl (by decide +kernel) rfl rfl) rfl ?_
  refine g_if_neb (pc' := 8) (tgt := 10) C d_Mo_bar_5 rfl rfl (fun h => ?_) (fun h => ?_)
  · replace hf := g_bt h hf
    refine g_aload_n (pc' := 11) C 0 d_Mo_bar_10 rfl rfl ?_
    refine g_get (pc' := 14) C kf_Mo 8 mw_4_146 d_Mo_bar_11 rfl 0 rfl (by decide) rfl ?_
    refine g_iload_n (pc' := 15) C 1 d_Mo_bar_14 rfl rfl ?_
    have hb := g_ck hf
    replace hf := g_in hb hf
    refine g_zald (pc' := 16) C d_Mo_bar_15 rfl 1 rfl hb ?_
    refine g_if_eq (pc' := 19) (tgt := 21) C d_Mo_bar_16 rfl rfl (fun h => ?_) (fun h => ?_)
    · replace hf := g_ip h hf
      refine g_aload_n (pc' := 22) C 0 d_Mo_bar_21 rfl rfl ?_
      refine g_get (pc' := 25) C kf_Mo 8 mw_4_146 d_Mo_bar_22 rfl 0 rfl (by decide) rfl ?_
      refine g_iload_n (pc' := 26) C 1 d_Mo_bar_25 rfl rfl ?_
      refine g_iconst (pc' := 27) (v := 1) C d_Mo_bar_26 rfl rfl ?_
      have hb := g_ck hf
      replace hf := g_in hb hf
      refine g_zast (pc' := 28) (ws' := [O_Mo a_o x_o_code x_o_lamps x_o_at x_o_night x_o_spent x_o_rest x_o_shy a_o_had a_o_told a_o_barred a_o_cost a_o_last a_o_often x_o_hasBegun x_o_doneMany x_o_undoneMany a_o_changeOf a_o_changeAt a_o_before a_o_behind a_o_tape x_o_taped x_o_here x_o_fault x_o_open x_o_laid a_o_act a_o_with a_o_lineMany a_o_testEnd a_o_lineEnd a_o_facts a_o_pile x_o_hasLaw a_o_way a_o_bestWay x_o_bestMany a_o_wasHad a_o_wasLast x_o_wasAt x_o_wasNight x_o_hasImage x_o_keptLamps x_o_keptAt x_o_keptNight x_o_keptSpent a_o_keptHad a_o_keptTold a_o_keptLast a_o_keptOften x_o_bodies a_o_kind x_o_traces a_o_traced a_o_holds a_o_size a_o_elements a_o_shifted, A_Z dA a_o_told 1024 (upd x_o_told (Int32.toNatClampNeg p1) (vp_nar .boolean (1 : Int32)))]) C d_Mo_bar_27 rfl 1 rfl hb rfl ?_
      refine g_iconst (pc' := 29) (v := 1) C d_Mo_bar_28 rfl rfl ?_
      replace hf := g_o2 hf; obtain ⟨h1, hf⟩ := hf; subst h1
      replace hf := Option.some.inj hf; subst hf
      exact g_iret C d_Mo_bar_29 () rfl
    · replace hf := g_in h hf
      refine g_iconst (pc' := 20) (v := 0) C d_Mo_bar_19 rfl rfl ?_
      replace hf := g_o2 hf; obtain ⟨h1, hf⟩ := hf; subst h1
      replace hf := Option.some.inj hf; subst hf
      exact g_iret C d_Mo_bar_20 () rfl
  · replace hf := g_bf h hf
    refine g_iconst (pc' := 9) (v := (-1)) C d_Mo_bar_8 rfl rfl ?_
    replace hf := g_o2 hf; obtain ⟨h1, hf⟩ := hf; subst h1
    replace hf := Option.some.inj hf; subst hf
    exact g_iret C d_Mo_bar_9 () rfl
def y_Mo_isShelf : MethodName := ⟨"OneLampModel", "isShelf", "(I)Z"⟩
theorem yy_Mo_isShelf : YS y_Mo_isShelf prog_13_method_94_code 1 (some .boolean) 1 := ⟨mw_5_109, mw_1_12, mw_5_108, by decide +kernel, by decide +kernel, by decide +kernel⟩
theorem d_Mo_isShelf_0 : decode prog_13_method_94_code 0 = .ok (.iload_n 0, 1) := by decide +kernel
theorem d_Mo_isShelf_1 : decode prog_13_method_94_code 1 = .ok (.iconst 0, 1) := by decide +kernel
theorem d_Mo_isShelf_2 : decode prog_13_method_94_code 2 = .ok (.iconst 5, 1) := by decide +kernel
theorem d_Mo_isShelf_3 : decode prog_13_method_94_code 3 = .ok (.invokestatic 121, 3) := by decide +kernel
theorem d_Mo_isShelf_6 : decode prog_13_method_94_code 6 = .ok (.ireturn, 1) := by decide +kernel
def f_Mo_isShelf  (p0 : Int32) : Option (Bool) :=
  (f_Mo_in  p0 (0 : Int32) (5 : Int32)).bind fun r1 =>
  some (r1)
set_option maxRecDepth 20000 in
theorem c_Mo_isShelf {l : Launch} {D : va_G} {dA : Nat → ClassId}   {p0 : Int32} {r0 : Bool}   (hf : f_Mo_isShelf  p0 = some r0) : CT l y_Mo_isShelf prog_13_method_94_code 1 (some .boolean) { frames := 1, cells := 0, slots := 0, locals := 22 } D dA [.int p0] [] (some (.int (b2i r0))) (fun _ : Unit => []) := by
  refine ct_intro "OneLampModel" rfl (by decide +kernel) (Nat.le_of_ble_eq_true rfl) [(0, .int p0)] rfl (fun _ C => ?_)
  unfold f_Mo_isShelf at hf
  refine g_iload_n (pc' := 1) C 0 d_Mo_isShelf_0 rfl rfl ?_
  refine g_iconst (pc' := 2) (v := 0) C d_Mo_isShelf_1 rfl rfl ?_
  refine g_iconst (pc' := 3) (v := 5) C d_Mo_isShelf_2 rfl rfl ?_
  replace hf := g_bi hf; obtain ⟨r1, hc2, hf⟩ := hf
  refine g_callS (pc' := 6) (st1 := [.int (b2i r1)]) (ws1 := []) C (c_Mo_in (l := l) (D := D) (dA := dA)    hc2) yy_Mo_in mw_5_80 d_Mo_isShelf_3 rfl [] rfl rfl (Nat.le_of_ble_eq_true rfl) ⟨Nat.le_of_ble_eq_true rfl, Nat.le_of_ble_eq_true rfl⟩ rfl rfl (Nat.zero_le _) (Nat.zero_le _) [] rfl (by decide +kernel) rfl (g_lay_sel _ _ _ _ [] (by decide +kernel) rfl (by decide +kernel) rfl rfl) rfl ?_
  replace hf := Option.some.inj hf; subst hf
  exact g_zret C d_Mo_isShelf_6 () rfl
def y_Mo_bars : MethodName := ⟨"OneLampModel", "bars", "(III)I"⟩
theorem yy_Mo_bars : YV y_Mo_bars prog_13_method_13_code 8 (some .int) 3 := ⟨mw_5_106, mw_1_12, mw_5_104, mw_5_105, by decide +kernel, by decide +kernel, by decide +kernel⟩
theorem d_Mo_bars_0 : decode prog_13_method_13_code 0 = .ok (.iload_n 1, 1) := by decide +kernel
theorem d_Mo_bars_1 : decode prog_13_method_13_code 1 = .ok (.invokestatic 146, 3) := by decide +kernel
theorem d_Mo_bars_4 : decode prog_13_method_13_code 4 = .ok (.ifCond .eq 13, 3) := by decide +kernel
theorem d_Mo_bars_7 : decode prog_13_method_13_code 7 = .ok (.iload_n 3, 1) := by decide +kernel
theorem d_Mo_bars_8 : decode prog_13_method_13_code 8 = .ok (.iconst 1, 1) := by decide +kernel
theorem d_Mo_bars_9 : decode prog_13_method_13_code 9 = .ok (.bipush 30, 2) := by decide +kernel
theorem d_Mo_bars_11 : decode prog_13_method_13_code 11 = .ok (.invokestatic 121, 3) := by decide +kernel
theorem d_Mo_bars_14 : decode prog_13_method_13_code 14 = .ok (.ifCond .ne 5, 3) := by decide +kernel
theorem d_Mo_bars_17 : decode prog_13_method_13_code 17 = .ok (.iconst (-1), 1) := by decide +kernel
theorem d_Mo_bars_18 : decode prog_13_method_13_code 18 = .ok (.ireturn, 1) := by decide +kernel
theorem d_Mo_bars_19 : decode prog_13_method_13_code 19 = .ok (.aload_n 0, 1) := by decide +kernel
theorem d_Mo_bars_20 : decode prog_13_method_13_code 20 = .ok (.getfield 101, 3) := by decide +kernel
theorem d_Mo_bars_23 : decode prog_13_method_13_code 23 = .ok (.iload_n 1, 1) := by decide +kernel
theorem d_Mo_bars_24 : decode prog_13_method_13_code 24 = .ok (.iaload, 1) := by decide +kernel
theorem d_Mo_bars_25 : decode prog_13_method_13_code 25 = .ok (.iconst (-1), 1) := by decide +kernel
theorem d_Mo_bars_26 : decode prog_13_method_13_code 26 = .ok (.if_icmp .eq 17, 3) := by decide +kernel
theorem d_Mo_bars_29 : decode prog_13_method_13_code 29 = .ok (.aload_n 0, 1) := by decide +kernel
theorem d_Mo_bars_30 : decode prog_13_method_13_code 30 = .ok (.getfield 101, 3) := by decide +kernel
theorem d_Mo_bars_33 : decode prog_13_method_13_code 33 = .ok (.iload_n 1, 1) := by decide +kernel
theorem d_Mo_bars_34 : decode prog_13_method_13_code 34 = .ok (.iaload, 1) := by decide +kernel
theorem d_Mo_bars_35 : decode prog_13_method_13_code 35 = .ok (.bipush (-3), 2) := by decide +kernel
theorem d_Mo_bars_37 : decode prog_13_method_13_code 37 = .ok (.if_icmp .eq 6, 3) := by decide +kernel
theorem d_Mo_bars_40 : decode prog_13_method_13_code 40 = .ok (.bipush (-12), 2) := by decide +kernel
theorem d_Mo_bars_42 : decode prog_13_method_13_code 42 = .ok (.ireturn, 1) := by decide +kernel
theorem d_Mo_bars_43 : decode prog_13_method_13_code 43 = .ok (.aload_n 0, 1) := by decide +kernel
theorem d_Mo_bars_44 : decode prog_13_method_13_code 44 = .ok (.getfield 101, 3) := by decide +kernel
theorem d_Mo_bars_47 : decode prog_13_method_13_code 47 = .ok (.iload_n 1, 1) := by decide +kernel
theorem d_Mo_bars_48 : decode prog_13_method_13_code 48 = .ok (.iaload, 1) := by decide +kernel
theorem d_Mo_bars_49 : decode prog_13_method_13_code 49 = .ok (.iconst (-1), 1) := by decide +kernel
theorem d_Mo_bars_50 : decode prog_13_method_13_code 50 = .ok (.if_icmp .ne 5, 3) := by decide +kernel
theorem d_Mo_bars_53 : decode prog_13_method_13_code 53 = .ok (.iconst 0, 1) := by decide +kernel
theorem d_Mo_bars_54 : decode prog_13_method_13_code 54 = .ok (.ireturn, 1) := by decide +kernel
theorem d_Mo_bars_55 : decode prog_13_method_13_code 55 = .ok (.iconst 0, 1) := by decide +kernel
theorem d_Mo_bars_56 : decode prog_13_method_13_code 56 = .ok (.istore 4, 2) := by decide +kernel
theorem d_Mo_bars_58 : decode prog_13_method_13_code 58 = .ok (.iload 4, 2) := by decide +kernel
theorem d_Mo_bars_60 : decode prog_13_method_13_code 60 = .ok (.iload_n 3, 1) := by decide +kernel
theorem d_Mo_bars_61 : decode prog_13_method_13_code 61 = .ok (.if_icmp .ge 76, 3) := by decide +kernel
theorem d_Mo_bars_64 : decode prog_13_method_13_code 64 = .ok (.iload_n 2, 1) := by decide +kernel
theorem d_Mo_bars_65 : decode prog_13_method_13_code 65 = .ok (.i2l, 1) := by decide +kernel
theorem d_Mo_bars_66 : decode prog_13_method_13_code 66 = .ok (.iload 4, 2) := by decide +kernel
theorem d_Mo_bars_68 : decode prog_13_method_13_code 68 = .ok (.i2l, 1) := by decide +kernel
theorem d_Mo_bars_69 : decode prog_13_method_13_code 69 = .ok (.ladd, 1) := by decide +kernel
theorem d_Mo_bars_70 : decode prog_13_method_13_code 70 = .ok (.lstore 5, 2) := by decide +kernel
theorem d_Mo_bars_72 : decode prog_13_method_13_code 72 = .ok (.lload 5, 2) := by decide +kernel
theorem d_Mo_bars_74 : decode prog_13_method_13_code 74 = .ok (.lconst 0, 1) := by decide +kernel
theorem d_Mo_bars_75 : decode prog_13_method_13_code 75 = .ok (.lcmp, 1) := by decide +kernel
theorem d_Mo_bars_76 : decode prog_13_method_13_code 76 = .ok (.ifCond .lt 16, 3) := by decide +kernel
theorem d_Mo_bars_79 : decode prog_13_method_13_code 79 = .ok (.lload 5, 2) := by decide +kernel
theorem d_Mo_bars_81 : decode prog_13_method_13_code 81 = .ok (.aload_n 0, 1) := by decide +kernel
theorem d_Mo_bars_82 : decode prog_13_method_13_code 82 = .ok (.getfield 104, 3) := by decide +kernel
theorem d_Mo_bars_85 : decode prog_13_method_13_code 85 = .ok (.iload_n 1, 1) := by decide +kernel
theorem d_Mo_bars_86 : decode prog_13_method_13_code 86 = .ok (.iaload, 1) := by decide +kernel
theorem d_Mo_bars_87 : decode prog_13_method_13_code 87 = .ok (.i2l, 1) := by decide +kernel
theorem d_Mo_bars_88 : decode prog_13_method_13_code 88 = .ok (.lcmp, 1) := by decide +kernel
theorem d_Mo_bars_89 : decode prog_13_method_13_code 89 = .ok (.ifCond .lt 6, 3) := by decide +kernel
theorem d_Mo_bars_92 : decode prog_13_method_13_code 92 = .ok (.iload 4, 2) := by decide +kernel
theorem d_Mo_bars_94 : decode prog_13_method_13_code 94 = .ok (.ireturn, 1) := by decide +kernel
theorem d_Mo_bars_95 : decode prog_13_method_13_code 95 = .ok (.aload_n 0, 1) := by decide +kernel
theorem d_Mo_bars_96 : decode prog_13_method_13_code 96 = .ok (.getfield 107, 3) := by decide +kernel
theorem d_Mo_bars_99 : decode prog_13_method_13_code 99 = .ok (.bipush 60, 2) := by decide +kernel
theorem d_Mo_bars_101 : decode prog_13_method_13_code 101 = .ok (.iload_n 1, 1) := by decide +kernel
theorem d_Mo_bars_102 : decode prog_13_method_13_code 102 = .ok (.imul, 1) := by decide +kernel
theorem d_Mo_bars_103 : decode prog_13_method_13_code 103 = .ok (.lload 5, 2) := by decide +kernel
theorem d_Mo_bars_105 : decode prog_13_method_13_code 105 = .ok (.l2i, 1) := by decide +kernel
theorem d_Mo_bars_106 : decode prog_13_method_13_code 106 = .ok (.iadd, 1) := by decide +kernel
theorem d_Mo_bars_107 : decode prog_13_method_13_code 107 = .ok (.laload, 1) := by decide +kernel
theorem d_Mo_bars_108 : decode prog_13_method_13_code 108 = .ok (.l2i, 1) := by decide +kernel
theorem d_Mo_bars_109 : decode prog_13_method_13_code 109 = .ok (.istore 7, 2) := by decide +kernel
theorem d_Mo_bars_111 : decode prog_13_method_13_code 111 = .ok (.aload_n 0, 1) := by decide +kernel
theorem d_Mo_bars_112 : decode prog_13_method_13_code 112 = .ok (.iload 7, 2) := by decide +kernel
theorem d_Mo_bars_114 : decode prog_13_method_13_code 114 = .ok (.invokevirtual 142, 3) := by decide +kernel
theorem d_Mo_bars_117 : decode prog_13_method_13_code 117 = .ok (.ifCond .ne 6, 3) := by decide +kernel
theorem d_Mo_bars_120 : decode prog_13_method_13_code 120 = .ok (.iload 4, 2) := by decide +kernel
theorem d_Mo_bars_122 : decode prog_13_method_13_code 122 = .ok (.ireturn, 1) := by decide +kernel
theorem d_Mo_bars_123 : decode prog_13_method_13_code 123 = .ok (.aload_n 0, 1) := by decide +kernel
theorem d_Mo_bars_124 : decode prog_13_method_13_code 124 = .ok (.getfield 17, 3) := by decide +kernel
theorem d_Mo_bars_127 : decode prog_13_method_13_code 127 = .ok (.iload 7, 2) := by decide +kernel
theorem d_Mo_bars_129 : decode prog_13_method_13_code 129 = .ok (.iconst 1, 1) := by decide +kernel
theorem d_Mo_bars_130 : decode prog_13_method_13_code 130 = .ok (.bastore, 1) := by decide +kernel
theorem d_Mo_bars_131 : decode prog_13_method_13_code 131 = .ok (.iinc 4 1, 3) := by decide +kernel
theorem d_Mo_bars_134 : decode prog_13_method_13_code 134 = .ok (.goto (-76), 3) := by decide +kernel
theorem d_Mo_bars_137 : decode prog_13_method_13_code 137 = .ok (.iload_n 3, 1) := by decide +kernel
theorem d_Mo_bars_138 : decode prog_13_method_13_code 138 = .ok (.ireturn, 1) := by decide +kernel
def f_Mo_bars_L58   : Nat → Int32 → Int32 → Int32 → Int32 → Int32 → (Nat → Int32) → (Nat → Int64) → (Nat → Int32) → Option (Int32 × (Nat → Int32))
  | 0, _, _, _, _, _, _, _, _ => none
  | n + 1, v1, v2, v3, v4, x_o_lamps, x_o_size, x_o_elements, x_o_told =>
    if v3 ≤ v4 then
      (some (v3, x_o_told))
    else
      (if (lg_cmp ((Int32.toInt64 v2) + (Int32.toInt64 v4)) (0 : Int64)) < 0 then
        (some (v4, x_o_told))
      else
        (if v1 < 0 ∨ 6 ≤ Int32.toNatClampNeg v1 then none else
        if (lg_cmp ((Int32.toInt64 v2) + (Int32.toInt64 v4)) (Int32.toInt64 (x_o_size (Int32.toNatClampNeg v1)))) < 0 then
          (if (((60 : Int32) * v1) + (Int64.toInt32 ((Int32.toInt64 v2) + (Int32.toInt64 v4)))) < 0 ∨ 360 ≤ Int32.toNatClampNeg (((60 : Int32) * v1) + (Int64.toInt32 ((Int32.toInt64 v2) + (Int32.toInt64 v4)))) then none else
          (f_Mo_isPicture  (Int64.toInt32 (x_o_elements (Int32.toNatClampNeg (((60 : Int32) * v1) + (Int64.toInt32 ((Int32.toInt64 v2) + (Int32.toInt64 v4))))))) x_o_lamps).bind fun r1 =>
          if r1 = true then
            (if (Int64.toInt32 (x_o_elements (Int32.toNatClampNeg (((60 : Int32) * v1) + (Int64.toInt32 ((Int32.toInt64 v2) + (Int32.toInt64 v4))))))) < 0 ∨ 1024 ≤ Int32.toNatClampNeg (Int64.toInt32 (x_o_elements (Int32.toNatClampNeg (((60 : Int32) * v1) + (Int64.toInt32 ((Int32.toInt64 v2) + (Int32.toInt64 v4))))))) then none else
            f_Mo_bars_L58  n v1 v2 v3 (v4 + 1) x_o_lamps x_o_size x_o_elements (upd x_o_told (Int32.toNatClampNeg (Int64.toInt32 (x_o_elements (Int32.toNatClampNeg (((60 : Int32) * v1) + (Int64.toInt32 ((Int32.toInt64 v2) + (Int32.toInt64 v4)))))))) (vp_nar .boolean (1 : Int32))))
          else
            (some (v4, x_o_told)))
        else
          (some (v4, x_o_told))))
set_option maxRecDepth 20000 in
theorem w_Mo_bars_L58 {p : Program} {l : Launch} {e : Env} {s : State} {m : MethodId} {args : Array Value} {below : List Frame} {meth : Method} {c : Code} {D : va_G} {dA : Nat → ClassId} {A : Nat → Prop} (C : GC p s m args meth c prog_13_method_13_code 8 "OneLampModel" (some .int) D dA A) {a_o a_o_had a_o_told a_o_barred a_o_cost a_o_last a_o_often a_o_changeOf a_o_changeAt a_o_before a_o_behind a_o_tape a_o_act a_o_with a_o_lineMany a_o_testEnd a_o_lineEnd a_o_facts a_o_pile a_o_way a_o_bestWay a_o_wasHad a_o_wasLast a_o_keptHad a_o_keptTold a_o_keptLast a_o_keptOften a_o_kind a_o_traced a_o_holds a_o_size a_o_elements a_o_shifted : Nat} {x_o_code : Int32} {x_o_at : Int32} {x_o_night : Int32} {x_o_spent : Int32} {x_o_rest : Int32} {x_o_shy : Int32} {x_o_hasBegun : Bool} {x_o_doneMany : Int32} {x_o_undoneMany : Int32} {x_o_taped : Int32} {x_o_here : Int32} {x_o_fault : Int32} {x_o_open : Int32} {x_o_laid : Int32} {x_o_hasLaw : Bool} {x_o_bestMany : Int32} {x_o_wasAt : Int32} {x_o_wasNight : Int32} {x_o_hasImage : Bool} {x_o_keptLamps : Int32} {x_o_keptAt : Int32} {x_o_keptNight : Int32} {x_o_keptSpent : Int32} {x_o_bodies : Int32} {x_o_traces : Int32} {x_o_holds : Nat → Int32} {r0 : Int32} {o_x_o_told : Nat → Int32}    : ∀ (n : Nat) (v1 : Int32) (v2 : Int32) (v3 : Int32) (v4 : Int32) (x_o_lamps : Int32) (x_o_size : Nat → Int32) (x_o_elements : Nat → Int64) (x_o_told : Nat → Int32), f_Mo_bars_L58   n v1 v2 v3 v4 x_o_lamps x_o_size x_o_elements x_o_told = some (r0, o_x_o_told) → GG p l e { frames := 2, cells := 0, slots := 0, locals := 43 } s m args below meth c 8 D A 0 0 (MQ below (cQ D A (some (.int r0)) (fun _ : Unit => [O_Mo a_o x_o_code x_o_lamps x_o_at x_o_night x_o_spent x_o_rest x_o_shy a_o_had a_o_told a_o_barred a_o_cost a_o_last a_o_often x_o_hasBegun x_o_doneMany x_o_undoneMany a_o_changeOf a_o_changeAt a_o_before a_o_behind a_o_tape x_o_taped x_o_here x_o_fault x_o_open x_o_laid a_o_act a_o_with a_o_lineMany a_o_testEnd a_o_lineEnd a_o_facts a_o_pile x_o_hasLaw a_o_way a_o_bestWay x_o_bestMany a_o_wasHad a_o_wasLast x_o_wasAt x_o_wasNight x_o_hasImage x_o_keptLamps x_o_keptAt x_o_keptNight x_o_keptSpent a_o_keptHad a_o_keptTold a_o_keptLast a_o_keptOften x_o_bodies a_o_kind x_o_traces a_o_traced a_o_holds a_o_size a_o_elements a_o_shifted, A_I dA a_o_holds 6 x_o_holds, A_I dA a_o_size 6 x_o_size, A_J dA a_o_elements 360 x_o_elements, A_Z dA a_o_told 1024 o_x_o_told])) args s 0 0 A) 58 [(0, .ref a_o), (1, .int v1), (2, .int v2), (3, .int v3), (4, .int v4)] [] [O_Mo a_o x_o_code x_o_lamps x_o_at x_o_night x_o_spent x_o_rest x_o_shy a_o_had a_o_told a_o_barred a_o_cost a_o_last a_o_often x_o_hasBegun x_o_doneMany x_o_undoneMany a_o_changeOf a_o_changeAt a_o_before a_o_behind a_o_tape x_o_taped x_o_here x_o_fault x_o_open x_o_laid a_o_act a_o_with a_o_lineMany a_o_testEnd a_o_lineEnd a_o_facts a_o_pile x_o_hasLaw a_o_way a_o_bestWay x_o_bestMany a_o_wasHad a_o_wasLast x_o_wasAt x_o_wasNight x_o_hasImage x_o_keptLamps x_o_keptAt x_o_keptNight x_o_keptSpent a_o_keptHad a_o_keptTold a_o_keptLast a_o_keptOften x_o_bodies a_o_kind x_o_traces a_o_traced a_o_holds a_o_size a_o_elements a_o_shifted, A_I dA a_o_holds 6 x_o_holds, A_I dA a_o_size 6 x_o_size, A_J dA a_o_elements 360 x_o_elements, A_Z dA a_o_told 1024 x_o_told] := by
  intro n
  induction n with
  | zero =>
    intro v1 v2 v3 v4 x_o_lamps x_o_size x_o_elements x_o_told hf
    cases hf
  | succ n ih =>
    intro v1 v2 v3 v4 x_o_lamps x_o_size x_o_elements x_o_told hf
    unfold f_Mo_bars_L58 at hf
    refine g_iload (pc' := 60) C 4 d_Mo_bars_58 rfl rfl ?_
    refine g_iload_n (pc' := 61) C 3 d_Mo_bars_60 rfl rfl ?_
    refine g_icmp_ge (pc' := 64) (tgt := 137) C d_Mo_bars_61 rfl rfl (fun h => ?_) (fun h => ?_)
    · replace hf := g_ip h hf
      refine g_iload_n (pc' := 138) C 3 d_Mo_bars_137 rfl rfl ?_
      replace hf := g_o2 hf; obtain ⟨h1, hf⟩ := hf; subst h1
      replace hf := Option.some.inj hf; subst hf
      exact g_iret C d_Mo_bars_138 () rfl
    · replace hf := g_in h hf
      refine g_iload_n (pc' := 65) C 2 d_Mo_bars_64 rfl rfl ?_
      refine g_i2l (pc' := 66) C d_Mo_bars_65 rfl ?_
      refine g_iload (pc' := 68) C 4 d_Mo_bars_66 rfl rfl ?_
      refine g_i2l (pc' := 69) C d_Mo_bars_68 rfl ?_
      refine g_ladd (pc' := 70) C d_Mo_bars_69 rfl ?_
      refine g_lstore (pc' := 72) (lv' := [(5, .long ((Int32.toInt64 v2) + (Int32.toInt64 v4))), (0, .ref a_o), (1, .int v1), (2, .int v2), (3, .int v3), (4, .int v4)]) C d_Mo_bars_70 rfl (by decide) rfl ?_
      refine g_lload (pc' := 74) C 0 d_Mo_bars_72 rfl rfl ?_
      refine g_lconst (pc' := 75) (v := 0) C d_Mo_bars_74 rfl rfl ?_
      refine g_lcmp (pc' := 76) C d_Mo_bars_75 rfl ?_
      refine g_if_lt (pc' := 79) (tgt := 92) C d_Mo_bars_76 rfl rfl (fun h => ?_) (fun h => ?_)
      · replace hf := g_ip h hf
        refine g_iload (pc' := 94) C 5 d_Mo_bars_92 rfl rfl ?_
        replace hf := g_o2 hf; obtain ⟨h1, hf⟩ := hf; subst h1
        replace hf := Option.some.inj hf; subst hf
        exact g_iret C d_Mo_bars_94 () rfl
      · replace hf := g_in h hf
        refine g_lload (pc' := 81) C 0 d_Mo_bars_79 rfl rfl ?_
        refine g_aload_n (pc' := 82) C 1 d_Mo_bars_81 rfl rfl ?_
        refine g_get (pc' := 85) C kf_Mo 55 mw_4_193 d_Mo_bars_82 rfl 0 rfl (by decide) rfl ?_
        refine g_iload_n (pc' := 86) C 2 d_Mo_bars_85 rfl rfl ?_
        have hb := g_ck hf
        replace hf := g_in hb hf
        refine g_iald (pc' := 87) C d_Mo_bars_86 rfl 2 rfl hb ?_
        refine g_i2l (pc' := 88) C d_Mo_bars_87 rfl ?_
        refine g_lcmp (pc' := 89) C d_Mo_bars_88 rfl ?_
        refine g_if_lt (pc' := 92) (tgt := 95) C d_Mo_bars_89 rfl rfl (fun h => ?_) (fun h => ?_)
        · replace hf := g_ip h hf
          refine g_aload_n (pc' := 96) C 1 d_Mo_bars_95 rfl rfl ?_
          refine g_get (pc' := 99) C kf_Mo 56 mw_4_194 d_Mo_bars_96 rfl 0 rfl (by decide) rfl ?_
          refine g_bipush (pc' := 101) (v := 60) C d_Mo_bars_99 rfl rfl ?_
          refine g_iload_n (pc' := 102) C 2 d_Mo_bars_101 rfl rfl ?_
          refine g_imul (pc' := 103) C d_Mo_bars_102 rfl ?_
          refine g_lload (pc' := 105) C 0 d_Mo_bars_103 rfl rfl ?_
          refine g_l2i (pc' := 106) C d_Mo_bars_105 rfl ?_
          refine g_iadd (pc' := 107) C d_Mo_bars_106 rfl ?_
          have hb := g_ck hf
          replace hf := g_in hb hf
          refine g_lald (pc' := 108) C d_Mo_bars_107 rfl 3 rfl hb ?_
          refine g_l2i (pc' := 109) C d_Mo_bars_108 rfl ?_
          refine g_istore (pc' := 111) (lv' := [(7, .int (Int64.toInt32 (x_o_elements (Int32.toNatClampNeg (((60 : Int32) * v1) + (Int64.toInt32 ((Int32.toInt64 v2) + (Int32.toInt64 v4)))))))), (5, .long ((Int32.toInt64 v2) + (Int32.toInt64 v4))), (0, .ref a_o), (1, .int v1), (2, .int v2), (3, .int v3), (4, .int v4)]) C d_Mo_bars_109 rfl (by decide) rfl ?_
          refine g_aload_n (pc' := 112) C 2 d_Mo_bars_111 rfl rfl ?_
          refine g_iload (pc' := 114) C 0 d_Mo_bars_112 rfl rfl ?_
          replace hf := g_bi hf; obtain ⟨r1, hc2, hf⟩ := hf
          refine g_callV (pc' := 117) (st1 := [.int (b2i r1)]) (ws1 := [O_Mo a_o x_o_code x_o_lamps x_o_at x_o_night x_o_spent x_o_rest x_o_shy a_o_had a_o_told a_o_barred a_o_cost a_o_last a_o_often x_o_hasBegun x_o_doneMany x_o_undoneMany a_o_changeOf a_o_changeAt a_o_before a_o_behind a_o_tape x_o_taped x_o_here x_o_fault x_o_open x_o_laid a_o_act a_o_with a_o_lineMany a_o_testEnd a_o_lineEnd a_o_facts a_o_pile x_o_hasLaw a_o_way a_o_bestWay x_o_bestMany a_o_wasHad a_o_wasLast x_o_wasAt x_o_wasNight x_o_hasImage x_o_keptLamps x_o_keptAt x_o_keptNight x_o_keptSpent a_o_keptHad a_o_keptTold a_o_keptLast a_o_keptOften x_o_bodies a_o_kind x_o_traces a_o_traced a_o_holds a_o_size a_o_elements a_o_shifted, A_I dA a_o_holds 6 x_o_holds, A_I dA a_o_size 6 x_o_size, A_J dA a_o_elements 360 x_o_elements, A_Z dA a_o_told 1024 x_o_told]) C (c_Mo_isPicture (l := l) (D := D) (dA := dA) (a_o := a_o) (a_o_had := a_o_had) (a_o_told := a_o_told) (a_o_barred := a_o_barred) (a_o_cost := a_o_cost) (a_o_last := a_o_last) (a_o_often := a_o_often) (a_o_changeOf := a_o_changeOf) (a_o_changeAt := a_o_changeAt) (a_o_before := a_o_before) (a_o_behind := a_o_behind) (a_o_tape := a_o_tape) (a_o_act := a_o_act) (a_o_with := a_o_with) (a_o_lineMany := a_o_lineMany) (a_o_testEnd := a_o_testEnd) (a_o_lineEnd := a_o_lineEnd) (a_o_facts := a_o_facts) (a_o_pile := a_o_pile) (a_o_way := a_o_way) (a_o_bestWay := a_o_bestWay) (a_o_wasHad := a_o_wasHad) (a_o_wasLast := a_o_wasLast) (a_o_keptHad := a_o_keptHad) (a_o_keptTold := a_o_keptTold) (a_o_keptLast := a_o_keptLast) (a_o_keptOften := a_o_keptOften) (a_o_kind := a_o_kind) (a_o_traced := a_o_traced) (a_o_holds := a_o_holds) (a_o_size := a_o_size) (a_o_elements := a_o_elements) (a_o_shifted := a_o_shifted) (x_o_code := x_o_code) (x_o_at := x_o_at) (x_o_night := x_o_night) (x_o_spent := x_o_spent) (x_o_rest := x_o_rest) (x_o_shy := x_o_shy) (x_o_hasBegun := x_o_hasBegun) (x_o_doneMany := x_o_doneMany) (x_o_undoneMany := x_o_undoneMany) (x_o_taped := x_o_taped) (x_o_here := x_o_here) (x_o_fault := x_o_fault) (x_o_open := x_o_open) (x_o_laid := x_o_laid) (x_o_hasLaw := x_o_hasLaw) (x_o_bestMany := x_o_bestMany) (x_o_wasAt := x_o_wasAt) (x_o_wasNight := x_o_wasNight) (x_o_hasImage := x_o_hasImage) (x_o_keptLamps := x_o_keptLamps) (x_o_keptAt := x_o_keptAt) (x_o_keptNight := x_o_keptNight) (x_o_keptSpent := x_o_keptSpent) (x_o_bodies := x_o_bodies) (x_o_traces := x_o_traces)   hc2) yy_Mo_isPicture kf_Mo rfl mw_5_91 d_Mo_bars_114 rfl [] rfl rfl (Nat.le_of_ble_eq_true rfl) ⟨Nat.le_of_ble_eq_true rfl, Nat.le_of_ble_eq_true rfl⟩ rfl rfl (Nat.zero_le _) (Nat.zero_le _) 0 rfl [0] rfl (by decide +kernel) rfl (g_lay_sel _ _ _ _ [(0, true), (1, false), (2, false), (3, false), (4, false)] (by decide +kernel) rfl (by decide +kernel) rfl rfl) rfl ?_
          refine g_if_neb (pc' := 120) (tgt := 123) C d_Mo_bars_117 rfl rfl (fun h => ?_) (fun h => ?_)
          · replace hf := g_bt h hf
            refine g_aload_n (pc' := 124) C 2 d_Mo_bars_123 rfl rfl ?_
            refine g_get (pc' := 127) C kf_Mo 8 mw_4_146 d_Mo_bars_124 rfl 0 rfl (by decide) rfl ?_
            refine g_iload (pc' := 129) C 0 d_Mo_bars_127 rfl rfl ?_
            refine g_iconst (pc' := 130) (v := 1) C d_Mo_bars_129 rfl rfl ?_
            have hb := g_ck hf
            replace hf := g_in hb hf
            refine g_zast (pc' := 131) (ws' := [O_Mo a_o x_o_code x_o_lamps x_o_at x_o_night x_o_spent x_o_rest x_o_shy a_o_had a_o_told a_o_barred a_o_cost a_o_last a_o_often x_o_hasBegun x_o_doneMany x_o_undoneMany a_o_changeOf a_o_changeAt a_o_before a_o_behind a_o_tape x_o_taped x_o_here x_o_fault x_o_open x_o_laid a_o_act a_o_with a_o_lineMany a_o_testEnd a_o_lineEnd a_o_facts a_o_pile x_o_hasLaw a_o_way a_o_bestWay x_o_bestMany a_o_wasHad a_o_wasLast x_o_wasAt x_o_wasNight x_o_hasImage x_o_keptLamps x_o_keptAt x_o_keptNight x_o_keptSpent a_o_keptHad a_o_keptTold a_o_keptLast a_o_keptOften x_o_bodies a_o_kind x_o_traces a_o_traced a_o_holds a_o_size a_o_elements a_o_shifted, A_I dA a_o_holds 6 x_o_holds, A_I dA a_o_size 6 x_o_size, A_J dA a_o_elements 360 x_o_elements, A_Z dA a_o_told 1024 (upd x_o_told (Int32.toNatClampNeg (Int64.toInt32 (x_o_elements (Int32.toNatClampNeg (((60 : Int32) * v1) + (Int64.toInt32 ((Int32.toInt64 v2) + (Int32.toInt64 v4)))))))) (vp_nar .boolean (1 : Int32)))]) C d_Mo_bars_130 rfl 4 rfl hb rfl ?_
            refine g_iinc (pc' := 134) (j := 6) (v := (v4 + 1)) (lv' := [(4, .int (v4 + 1)), (7, .int (Int64.toInt32 (x_o_elements (Int32.toNatClampNeg (((60 : Int32) * v1) + (Int64.toInt32 ((Int32.toInt64 v2) + (Int32.toInt64 v4)))))))), (5, .long ((Int32.toInt64 v2) + (Int32.toInt64 v4))), (0, .ref a_o), (1, .int v1), (2, .int v2), (3, .int v3)]) C d_Mo_bars_131 rfl rfl rfl (by decide) rfl ?_
            refine g_goto (tgt := 58) C d_Mo_bars_134 rfl ?_
            refine g_lv (lv' := [(0, .ref a_o), (1, .int v1), (2, .int v2), (3, .int v3), (4, .int (v4 + 1))]) [3, 4, 5, 6, 0] rfl ?_
            exact ih v1 v2 v3 (v4 + 1) x_o_lamps x_o_size x_o_elements (upd x_o_told (Int32.toNatClampNeg (Int64.toInt32 (x_o_elements (Int32.toNatClampNeg (((60 : Int32) * v1) + (Int64.toInt32 ((Int32.toInt64 v2) + (Int32.toInt64 v4)))))))) (vp_nar .boolean (1 : Int32))) hf
          · replace hf := g_bf h hf
            refine g_iload (pc' := 122) C 6 d_Mo_bars_120 rfl rfl ?_
            replace hf := g_o2 hf; obtain ⟨h1, hf⟩ := hf; subst h1
            replace hf := Option.some.inj hf; subst hf
            exact g_iret C d_Mo_bars_122 () rfl
        · replace hf := g_in h hf
          refine g_iload (pc' := 94) C 5 d_Mo_bars_92 rfl rfl ?_
          replace hf := g_o2 hf; obtain ⟨h1, hf⟩ := hf; subst h1
          replace hf := Option.some.inj hf; subst hf
          exact g_iret C d_Mo_bars_94 () rfl
def f_Mo_bars_L43   (v1 : Int32) (v2 : Int32) (v3 : Int32) (x_o_lamps : Int32) (x_o_holds : Nat → Int32) (x_o_size : Nat → Int32) (x_o_elements : Nat → Int64) (x_o_told : Nat → Int32) : Option (Int32 × (Nat → Int32)) :=
  if v1 < 0 ∨ 6 ≤ Int32.toNatClampNeg v1 then none else
  if (x_o_holds (Int32.toNatClampNeg v1)) = (-1 : Int32) then
    (some ((0 : Int32), x_o_told))
  else
    (f_Mo_bars_L58  3000 v1 v2 v3 (0 : Int32) x_o_lamps x_o_size x_o_elements x_o_told)
set_option maxRecDepth 20000 in
theorem w_Mo_bars_L43 {p : Program} {l : Launch} {e : Env} {s : State} {m : MethodId} {args : Array Value} {below : List Frame} {meth : Method} {c : Code} {D : va_G} {dA : Nat → ClassId} {A : Nat → Prop} (C : GC p s m args meth c prog_13_method_13_code 8 "OneLampModel" (some .int) D dA A) {a_o a_o_had a_o_told a_o_barred a_o_cost a_o_last a_o_often a_o_changeOf a_o_changeAt a_o_before a_o_behind a_o_tape a_o_act a_o_with a_o_lineMany a_o_testEnd a_o_lineEnd a_o_facts a_o_pile a_o_way a_o_bestWay a_o_wasHad a_o_wasLast a_o_keptHad a_o_keptTold a_o_keptLast a_o_keptOften a_o_kind a_o_traced a_o_holds a_o_size a_o_elements a_o_shifted : Nat} {x_o_code : Int32} {x_o_at : Int32} {x_o_night : Int32} {x_o_spent : Int32} {x_o_rest : Int32} {x_o_shy : Int32} {x_o_hasBegun : Bool} {x_o_doneMany : Int32} {x_o_undoneMany : Int32} {x_o_taped : Int32} {x_o_here : Int32} {x_o_fault : Int32} {x_o_open : Int32} {x_o_laid : Int32} {x_o_hasLaw : Bool} {x_o_bestMany : Int32} {x_o_wasAt : Int32} {x_o_wasNight : Int32} {x_o_hasImage : Bool} {x_o_keptLamps : Int32} {x_o_keptAt : Int32} {x_o_keptNight : Int32} {x_o_keptSpent : Int32} {x_o_bodies : Int32} {x_o_traces : Int32} {r0 : Int32} {o_x_o_told : Nat → Int32}    (v1 : Int32) (v2 : Int32) (v3 : Int32) (x_o_lamps : Int32) (x_o_holds : Nat → Int32) (x_o_size : Nat → Int32) (x_o_elements : Nat → Int64) (x_o_told : Nat → Int32) (hf : f_Mo_bars_L43   v1 v2 v3 x_o_lamps x_o_holds x_o_size x_o_elements x_o_told = some (r0, o_x_o_told)) : GG p l e { frames := 2, cells := 0, slots := 0, locals := 43 } s m args below meth c 8 D A 0 0 (MQ below (cQ D A (some (.int r0)) (fun _ : Unit => [O_Mo a_o x_o_code x_o_lamps x_o_at x_o_night x_o_spent x_o_rest x_o_shy a_o_had a_o_told a_o_barred a_o_cost a_o_last a_o_often x_o_hasBegun x_o_doneMany x_o_undoneMany a_o_changeOf a_o_changeAt a_o_before a_o_behind a_o_tape x_o_taped x_o_here x_o_fault x_o_open x_o_laid a_o_act a_o_with a_o_lineMany a_o_testEnd a_o_lineEnd a_o_facts a_o_pile x_o_hasLaw a_o_way a_o_bestWay x_o_bestMany a_o_wasHad a_o_wasLast x_o_wasAt x_o_wasNight x_o_hasImage x_o_keptLamps x_o_keptAt x_o_keptNight x_o_keptSpent a_o_keptHad a_o_keptTold a_o_keptLast a_o_keptOften x_o_bodies a_o_kind x_o_traces a_o_traced a_o_holds a_o_size a_o_elements a_o_shifted, A_I dA a_o_holds 6 x_o_holds, A_I dA a_o_size 6 x_o_size, A_J dA a_o_elements 360 x_o_elements, A_Z dA a_o_told 1024 o_x_o_told])) args s 0 0 A) 43 [(0, .ref a_o), (1, .int v1), (2, .int v2), (3, .int v3)] [] [O_Mo a_o x_o_code x_o_lamps x_o_at x_o_night x_o_spent x_o_rest x_o_shy a_o_had a_o_told a_o_barred a_o_cost a_o_last a_o_often x_o_hasBegun x_o_doneMany x_o_undoneMany a_o_changeOf a_o_changeAt a_o_before a_o_behind a_o_tape x_o_taped x_o_here x_o_fault x_o_open x_o_laid a_o_act a_o_with a_o_lineMany a_o_testEnd a_o_lineEnd a_o_facts a_o_pile x_o_hasLaw a_o_way a_o_bestWay x_o_bestMany a_o_wasHad a_o_wasLast x_o_wasAt x_o_wasNight x_o_hasImage x_o_keptLamps x_o_keptAt x_o_keptNight x_o_keptSpent a_o_keptHad a_o_keptTold a_o_keptLast a_o_keptOften x_o_bodies a_o_kind x_o_traces a_o_traced a_o_holds a_o_size a_o_elements a_o_shifted, A_I dA a_o_holds 6 x_o_holds, A_I dA a_o_size 6 x_o_size, A_J dA a_o_elements 360 x_o_elements, A_Z dA a_o_told 1024 x_o_told] := by
  unfold f_Mo_bars_L43 at hf
  refine g_aload_n (pc' := 44) C 0 d_Mo_bars_43 rfl rfl ?_
  refine g_get (pc' := 47) C kf_Mo 54 mw_4_192 d_Mo_bars_44 rfl 0 rfl (by decide) rfl ?_
  refine g_iload_n (pc' := 48) C 1 d_Mo_bars_47 rfl rfl ?_
  have hb := g_ck hf
  replace hf := g_in hb hf
  refine g_iald (pc' := 49) C d_Mo_bars_48 rfl 1 rfl hb ?_
  refine g_iconst (pc' := 50) (v := (-1)) C d_Mo_bars_49 rfl rfl ?_
  refine g_icmp_ne (pc' := 53) (tgt := 55) C d_Mo_bars_50 rfl rfl (fun h => ?_) (fun h => ?_)
  · replace hf := g_in h hf
    refine g_iconst (pc' := 56) (v := 0) C d_Mo_bars_55 rfl rfl ?_
    refine g_istore (pc' := 58) (lv' := [(4, .int 0), (0, .ref a_o), (1, .int v1), (2, .int v2), (3, .int v3)]) C d_Mo_bars_56 rfl (by decide) rfl ?_
    refine g_lv (lv' := [(0, .ref a_o), (1, .int v1), (2, .int v2), (3, .int v3), (4, .int (0 : Int32))]) [1, 2, 3, 4, 0] rfl ?_
    exact w_Mo_bars_L58 (a_o := a_o) (a_o_had := a_o_had) (a_o_told := a_o_told) (a_o_barred := a_o_barred) (a_o_cost := a_o_cost) (a_o_last := a_o_last) (a_o_often := a_o_often) (a_o_changeOf := a_o_changeOf) (a_o_changeAt := a_o_changeAt) (a_o_before := a_o_before) (a_o_behind := a_o_behind) (a_o_tape := a_o_tape) (a_o_act := a_o_act) (a_o_with := a_o_with) (a_o_lineMany := a_o_lineMany) (a_o_testEnd := a_o_testEnd) (a_o_lineEnd := a_o_lineEnd) (a_o_facts := a_o_facts) (a_o_pile := a_o_pile) (a_o_way := a_o_way) (a_o_bestWay := a_o_bestWay) (a_o_wasHad := a_o_wasHad) (a_o_wasLast := a_o_wasLast) (a_o_keptHad := a_o_keptHad) (a_o_keptTold := a_o_keptTold) (a_o_keptLast := a_o_keptLast) (a_o_keptOften := a_o_keptOften) (a_o_kind := a_o_kind) (a_o_traced := a_o_traced) (a_o_holds := a_o_holds) (a_o_size := a_o_size) (a_o_elements := a_o_elements) (a_o_shifted := a_o_shifted) C   3000 v1 v2 v3 (0 : Int32) x_o_lamps x_o_size x_o_elements x_o_told hf
  · replace hf := g_ip h hf
    refine g_iconst (pc' := 54) (v := 0) C d_Mo_bars_53 rfl rfl ?_
    replace hf := g_o2 hf; obtain ⟨h1, hf⟩ := hf; subst h1
    replace hf := Option.some.inj hf; subst hf
    exact g_iret C d_Mo_bars_54 () rfl
def f_Mo_bars  (p1 : Int32) (p2 : Int32) (p3 : Int32) (x_o_lamps : Int32) (x_o_holds : Nat → Int32) (x_o_size : Nat → Int32) (x_o_elements : Nat → Int64) (x_o_told : Nat → Int32) : Option (Int32 × (Nat → Int32)) :=
  (f_Mo_isShelf  p1).bind fun r3 =>
  if r3 = true then
    ((f_Mo_in  p3 (1 : Int32) (30 : Int32)).bind fun r5 =>
    if r5 = true then
      (if p1 < 0 ∨ 6 ≤ Int32.toNatClampNeg p1 then none else
      if (x_o_holds (Int32.toNatClampNeg p1)) = (-1 : Int32) then
        (f_Mo_bars_L43  p1 p2 p3 x_o_lamps x_o_holds x_o_size x_o_elements x_o_told)
      else
        (if p1 < 0 ∨ 6 ≤ Int32.toNatClampNeg p1 then none else
        if (x_o_holds (Int32.toNatClampNeg p1)) = (-3 : Int32) then
          (f_Mo_bars_L43  p1 p2 p3 x_o_lamps x_o_holds x_o_size x_o_elements x_o_told)
        else
          (some ((-12 : Int32), x_o_told))))
    else
      (some ((-1 : Int32), x_o_told)))
  else
    (some ((-1 : Int32), x_o_told))
set_option maxRecDepth 20000 in
theorem c_Mo_bars {l : Launch} {D : va_G} {dA : Nat → ClassId} {a_o a_o_had a_o_told a_o_barred a_o_cost a_o_last a_o_often a_o_changeOf a_o_changeAt a_o_before a_o_behind a_o_tape a_o_act a_o_with a_o_lineMany a_o_testEnd a_o_lineEnd a_o_facts a_o_pile a_o_way a_o_bestWay a_o_wasHad a_o_wasLast a_o_keptHad a_o_keptTold a_o_keptLast a_o_keptOften a_o_kind a_o_traced a_o_holds a_o_size a_o_elements a_o_shifted : Nat} {x_o_code : Int32} {x_o_at : Int32} {x_o_night : Int32} {x_o_spent : Int32} {x_o_rest : Int32} {x_o_shy : Int32} {x_o_hasBegun : Bool} {x_o_doneMany : Int32} {x_o_undoneMany : Int32} {x_o_taped : Int32} {x_o_here : Int32} {x_o_fault : Int32} {x_o_open : Int32} {x_o_laid : Int32} {x_o_hasLaw : Bool} {x_o_bestMany : Int32} {x_o_wasAt : Int32} {x_o_wasNight : Int32} {x_o_hasImage : Bool} {x_o_keptLamps : Int32} {x_o_keptAt : Int32} {x_o_keptNight : Int32} {x_o_keptSpent : Int32} {x_o_bodies : Int32} {x_o_traces : Int32} {p1 : Int32} {p2 : Int32} {p3 : Int32} {x_o_lamps : Int32} {x_o_holds : Nat → Int32} {x_o_size : Nat → Int32} {x_o_elements : Nat → Int64} {x_o_told : Nat → Int32} {r0 : Int32} {o_x_o_told : Nat → Int32}   (hf : f_Mo_bars  p1 p2 p3 x_o_lamps x_o_holds x_o_size x_o_elements x_o_told = some (r0, o_x_o_told)) : CT l y_Mo_bars prog_13_method_13_code 8 (some .int) { frames := 2, cells := 0, slots := 0, locals := 43 } D dA [.ref a_o, .int p1, .int p2, .int p3] [O_Mo a_o x_o_code x_o_lamps x_o_at x_o_night x_o_spent x_o_rest x_o_shy a_o_had a_o_told a_o_barred a_o_cost a_o_last a_o_often x_o_hasBegun x_o_doneMany x_o_undoneMany a_o_changeOf a_o_changeAt a_o_before a_o_behind a_o_tape x_o_taped x_o_here x_o_fault x_o_open x_o_laid a_o_act a_o_with a_o_lineMany a_o_testEnd a_o_lineEnd a_o_facts a_o_pile x_o_hasLaw a_o_way a_o_bestWay x_o_bestMany a_o_wasHad a_o_wasLast x_o_wasAt x_o_wasNight x_o_hasImage x_o_keptLamps x_o_keptAt x_o_keptNight x_o_keptSpent a_o_keptHad a_o_keptTold a_o_keptLast a_o_keptOften x_o_bodies a_o_kind x_o_traces a_o_traced a_o_holds a_o_size a_o_elements a_o_shifted, A_I dA a_o_holds 6 x_o_holds, A_I dA a_o_size 6 x_o_size, A_J dA a_o_elements 360 x_o_elements, A_Z dA a_o_told 1024 x_o_told] (some (.int r0)) (fun _ : Unit => [O_Mo a_o x_o_code x_o_lamps x_o_at x_o_night x_o_spent x_o_rest x_o_shy a_o_had a_o_told a_o_barred a_o_cost a_o_last a_o_often x_o_hasBegun x_o_doneMany x_o_undoneMany a_o_changeOf a_o_changeAt a_o_before a_o_behind a_o_tape x_o_taped x_o_here x_o_fault x_o_open x_o_laid a_o_act a_o_with a_o_lineMany a_o_testEnd a_o_lineEnd a_o_facts a_o_pile x_o_hasLaw a_o_way a_o_bestWay x_o_bestMany a_o_wasHad a_o_wasLast x_o_wasAt x_o_wasNight x_o_hasImage x_o_keptLamps x_o_keptAt x_o_keptNight x_o_keptSpent a_o_keptHad a_o_keptTold a_o_keptLast a_o_keptOften x_o_bodies a_o_kind x_o_traces a_o_traced a_o_holds a_o_size a_o_elements a_o_shifted, A_I dA a_o_holds 6 x_o_holds, A_I dA a_o_size 6 x_o_size, A_J dA a_o_elements 360 x_o_elements, A_Z dA a_o_told 1024 o_x_o_told]) := by
  refine ct_intro "OneLampModel" rfl (by decide +kernel) (Nat.le_of_ble_eq_true rfl) [(0, .ref a_o), (1, .int p1), (2, .int p2), (3, .int p3)] rfl (fun _ C => ?_)
  unfold f_Mo_bars at hf
  refine g_iload_n (pc' := 1) C 1 d_Mo_bars_0 rfl rfl ?_
  replace hf := g_bi hf; obtain ⟨r3, hc4, hf⟩ := hf
  refine g_callS (pc' := 4) (st1 := [.int (b2i r3)]) (ws1 := [O_Mo a_o x_o_code x_o_lamps x_o_at x_o_night x_o_spent x_o_rest x_o_shy a_o_had a_o_told a_o_barred a_o_cost a_o_last a_o_often x_o_hasBegun x_o_doneMany x_o_undoneMany a_o_changeOf a_o_changeAt a_o_before a_o_behind a_o_tape x_o_taped x_o_here x_o_fault x_o_open x_o_laid a_o_act a_o_with a_o_lineMany a_o_testEnd a_o_lineEnd a_o_facts a_o_pile x_o_hasLaw a_o_way a_o_bestWay x_o_bestMany a_o_wasHad a_o_wasLast x_o_wasAt x_o_wasNight x_o_hasImage x_o_keptLamps x_o_keptAt x_o_keptNight x_o_keptSpent a_o_keptHad a_o_keptTold a_o_keptLast a_o_keptOften x_o_bodies a_o_kind x_o_traces a_o_traced a_o_holds a_o_size a_o_elements a_o_shifted, A_I dA a_o_holds 6 x_o_holds, A_I dA a_o_size 6 x_o_size, A_J dA a_o_elements 360 x_o_elements, A_Z dA a_o_told 1024 x_o_told]) C (c_Mo_isShelf (l := l) (D := D) (dA := dA)    hc4) yy_Mo_isShelf mw_5_107 d_Mo_bars_1 rfl [] rfl rfl (Nat.le_of_ble_eq_true rfl) ⟨Nat.le_of_ble_eq_true rfl, Nat.le_of_ble_eq_true rfl⟩ rfl rfl (Nat.zero_le _) (Nat.zero_le _) [] rfl (by decide +kernel) rfl (g_lay_sel _ _ _ _ [(0, false), (1, false), (2, false), (3, false), (4, false)] (by decide +kernel) rfl (by decide +kernel) rfl rfl) rfl ?_
  refine g_if_eqb (pc' := 7) (tgt := 17) C d_Mo_bars_4 rfl rfl (fun h => ?_) (fun h => ?_)
  · replace hf := g_bf h hf
    refine g_iconst (pc' := 18) (v := (-1)) C d_Mo_bars_17 rfl rfl ?_
    replace hf := g_o2 hf; obtain ⟨h1, hf⟩ := hf; subst h1
    replace hf := Option.some.inj hf; subst hf
    exact g_iret C d_Mo_bars_18 () rfl
  · replace hf := g_bt h hf
    refine g_iload_n (pc' := 8) C 3 d_Mo_bars_7 rfl rfl ?_
    refine g_iconst (pc' := 9) (v := 1) C d_Mo_bars_8 rfl rfl ?_
    refine g_bipush (pc' := 11) (v := 30) C d_Mo_bars_9 rfl rfl ?_
    replace hf := g_bi hf; obtain ⟨r5, hc6, hf⟩ := hf
    refine g_callS (pc' := 14) (st1 := [.int (b2i r5)]) (ws1 := [O_Mo a_o x_o_code x_o_lamps x_o_at x_o_night x_o_spent x_o_rest x_o_shy a_o_had a_o_told a_o_barred a_o_cost a_o_last a_o_often x_o_hasBegun x_o_doneMany x_o_undoneMany a_o_changeOf a_o_changeAt a_o_before a_o_behind a_o_tape x_o_taped x_o_here x_o_fault x_o_open x_o_laid a_o_act a_o_with a_o_lineMany a_o_testEnd a_o_lineEnd a_o_facts a_o_pile x_o_hasLaw a_o_way a_o_bestWay x_o_bestMany a_o_wasHad a_o_wasLast x_o_wasAt x_o_wasNight x_o_hasImage x_o_keptLamps x_o_keptAt x_o_keptNight x_o_keptSpent a_o_keptHad a_o_keptTold a_o_keptLast a_o_keptOften x_o_bodies a_o_kind x_o_traces a_o_traced a_o_holds a_o_size a_o_elements a_o_shifted, A_I dA a_o_holds 6 x_o_holds, A_I dA a_o_size 6 x_o_size, A_J dA a_o_elements 360 x_o_elements, A_Z dA a_o_told 1024 x_o_told]) C (c_Mo_in (l := l) (D := D) (dA := dA)    hc6) yy_Mo_in mw_5_80 d_Mo_bars_11 rfl [] rfl rfl (Nat.le_of_ble_eq_true rfl) ⟨Nat.le_of_ble_eq_true rfl, Nat.le_of_ble_eq_true rfl⟩ rfl rfl (Nat.zero_le _) (Nat.zero_le _) [] rfl (by decide +kernel) rfl (g_lay_sel _ _ _ _ [(0, false), (1, false), (2, false), (3, false), (4, false)] (by decide +kernel) rfl (by decide +kernel) rfl rfl) rfl ?_
    refine g_if_neb (pc' := 17) (tgt := 19) C d_Mo_bars_14 rfl rfl (fun h => ?_) (fun h => ?_)
    · replace hf := g_bt h hf
      refine g_aload_n (pc' := 20) C 0 d_Mo_bars_19 rfl rfl ?_
      refine g_get (pc' := 23) C kf_Mo 54 mw_4_192 d_Mo_bars_20 rfl 0 rfl (by decide) rfl ?_
      refine g_iload_n (pc' := 24) C 1 d_Mo_bars_23 rfl rfl ?_
      have hb := g_ck hf
      replace hf := g_in hb hf
      refine g_iald (pc' := 25) C d_Mo_bars_24 rfl 1 rfl hb ?_
      refine g_iconst (pc' := 26) (v := (-1)) C d_Mo_bars_25 rfl rfl ?_
      refine g_icmp_eq (pc' := 29) (tgt := 43) C d_Mo_bars_26 rfl rfl (fun h => ?_) (fun h => ?_)
      · replace hf := g_ip h hf
        exact w_Mo_bars_L43 (a_o := a_o) (a_o_had := a_o_had) (a_o_told := a_o_told) (a_o_barred := a_o_barred) (a_o_cost := a_o_cost) (a_o_last := a_o_last) (a_o_often := a_o_often) (a_o_changeOf := a_o_changeOf) (a_o_changeAt := a_o_changeAt) (a_o_before := a_o_before) (a_o_behind := a_o_behind) (a_o_tape := a_o_tape) (a_o_act := a_o_act) (a_o_with := a_o_with) (a_o_lineMany := a_o_lineMany) (a_o_testEnd := a_o_testEnd) (a_o_lineEnd := a_o_lineEnd) (a_o_facts := a_o_facts) (a_o_pile := a_o_pile) (a_o_way := a_o_way) (a_o_bestWay := a_o_bestWay) (a_o_wasHad := a_o_wasHad) (a_o_wasLast := a_o_wasLast) (a_o_keptHad := a_o_keptHad) (a_o_keptTold := a_o_keptTold) (a_o_keptLast := a_o_keptLast) (a_o_keptOften := a_o_keptOften) (a_o_kind := a_o_kind) (a_o_traced := a_o_traced) (a_o_holds := a_o_holds) (a_o_size := a_o_size) (a_o_elements := a_o_elements) (a_o_shifted := a_o_shifted) C   p1 p2 p3 x_o_lamps x_o_holds x_o_size x_o_elements x_o_told hf
      · replace hf := g_in h hf
        refine g_aload_n (pc' := 30) C 0 d_Mo_bars_29 rfl rfl ?_
        refine g_get (pc' := 33) C kf_Mo 54 mw_4_192 d_Mo_bars_30 rfl 0 rfl (by decide) rfl ?_
        refine g_iload_n (pc' := 34) C 1 d_Mo_bars_33 rfl rfl ?_
        have hb := g_ck hf
        replace hf := g_in hb hf
        refine g_iald (pc' := 35) C d_Mo_bars_34 rfl 1 rfl hb ?_
        refine g_bipush (pc' := 37) (v := (-3)) C d_Mo_bars_35 rfl rfl ?_
        refine g_icmp_eq (pc' := 40) (tgt := 43) C d_Mo_bars_37 rfl rfl (fun h => ?_) (fun h => ?_)
        · replace hf := g_ip h hf
          exact w_Mo_bars_L43 (a_o := a_o) (a_o_had := a_o_had) (a_o_told := a_o_told) (a_o_barred := a_o_barred) (a_o_cost := a_o_cost) (a_o_last := a_o_last) (a_o_often := a_o_often) (a_o_changeOf := a_o_changeOf) (a_o_changeAt := a_o_changeAt) (a_o_before := a_o_before) (a_o_behind := a_o_behind) (a_o_tape := a_o_tape) (a_o_act := a_o_act) (a_o_with := a_o_with) (a_o_lineMany := a_o_lineMany) (a_o_testEnd := a_o_testEnd) (a_o_lineEnd := a_o_lineEnd) (a_o_facts := a_o_facts) (a_o_pile := a_o_pile) (a_o_way := a_o_way) (a_o_bestWay := a_o_bestWay) (a_o_wasHad := a_o_wasHad) (a_o_wasLast := a_o_wasLast) (a_o_keptHad := a_o_keptHad) (a_o_keptTold := a_o_keptTold) (a_o_keptLast := a_o_keptLast) (a_o_keptOften := a_o_keptOften) (a_o_kind := a_o_kind) (a_o_traced := a_o_traced) (a_o_holds := a_o_holds) (a_o_size := a_o_size) (a_o_elements := a_o_elements) (a_o_shifted := a_o_shifted) C   p1 p2 p3 x_o_lamps x_o_holds x_o_size x_o_elements x_o_told hf
        · replace hf := g_in h hf
          refine g_bipush (pc' := 42) (v := (-12)) C d_Mo_bars_40 rfl rfl ?_
          replace hf := g_o2 hf; obtain ⟨h1, hf⟩ := hf; subst h1
          replace hf := Option.some.inj hf; subst hf
          exact g_iret C d_Mo_bars_42 () rfl
    · replace hf := g_bf h hf
      refine g_iconst (pc' := 18) (v := (-1)) C d_Mo_bars_17 rfl rfl ?_
      replace hf := g_o2 hf; obtain ⟨h1, hf⟩ := hf; subst h1
      replace hf := Option.some.inj hf; subst hf
      exact g_iret C d_Mo_bars_18 () rfl
def y_Mo_set : MethodName := ⟨"OneLampModel", "set", "(II)I"⟩
theorem yy_Mo_set : YV y_Mo_set prog_13_method_14_code 4 (some .int) 2 := ⟨mw_5_113, mw_1_12, mw_5_111, mw_5_112, by decide +kernel, by decide +kernel, by decide +kernel⟩
theorem d_Mo_set_0 : decode prog_13_method_14_code 0 = .ok (.iload_n 1, 1) := by decide +kernel
theorem d_Mo_set_1 : decode prog_13_method_14_code 1 = .ok (.ifCond .ne 25, 3) := by decide +kernel
theorem d_Mo_set_4 : decode prog_13_method_14_code 4 = .ok (.iload_n 2, 1) := by decide +kernel
theorem d_Mo_set_5 : decode prog_13_method_14_code 5 = .ok (.iconst 0, 1) := by decide +kernel
theorem d_Mo_set_6 : decode prog_13_method_14_code 6 = .ok (.bipush 9, 2) := by decide +kernel
theorem d_Mo_set_8 : decode prog_13_method_14_code 8 = .ok (.invokestatic 121, 3) := by decide +kernel
theorem d_Mo_set_11 : decode prog_13_method_14_code 11 = .ok (.ifCond .eq 15, 3) := by decide +kernel
theorem d_Mo_set_14 : decode prog_13_method_14_code 14 = .ok (.aload_n 0, 1) := by decide +kernel
theorem d_Mo_set_15 : decode prog_13_method_14_code 15 = .ok (.getfield 149, 3) := by decide +kernel
theorem d_Mo_set_18 : decode prog_13_method_14_code 18 = .ok (.istore_n 3, 1) := by decide +kernel
theorem d_Mo_set_19 : decode prog_13_method_14_code 19 = .ok (.aload_n 0, 1) := by decide +kernel
theorem d_Mo_set_20 : decode prog_13_method_14_code 20 = .ok (.iload_n 2, 1) := by decide +kernel
theorem d_Mo_set_21 : decode prog_13_method_14_code 21 = .ok (.putfield 149, 3) := by decide +kernel
theorem d_Mo_set_24 : decode prog_13_method_14_code 24 = .ok (.iload_n 3, 1) := by decide +kernel
theorem d_Mo_set_25 : decode prog_13_method_14_code 25 = .ok (.ireturn, 1) := by decide +kernel
theorem d_Mo_set_26 : decode prog_13_method_14_code 26 = .ok (.iload_n 1, 1) := by decide +kernel
theorem d_Mo_set_27 : decode prog_13_method_14_code 27 = .ok (.iconst 1, 1) := by decide +kernel
theorem d_Mo_set_28 : decode prog_13_method_14_code 28 = .ok (.if_icmp .ne 12, 3) := by decide +kernel
theorem d_Mo_set_31 : decode prog_13_method_14_code 31 = .ok (.iload_n 2, 1) := by decide +kernel
theorem d_Mo_set_32 : decode prog_13_method_14_code 32 = .ok (.iconst 0, 1) := by decide +kernel
theorem d_Mo_set_33 : decode prog_13_method_14_code 33 = .ok (.iconst 1, 1) := by decide +kernel
theorem d_Mo_set_34 : decode prog_13_method_14_code 34 = .ok (.invokestatic 121, 3) := by decide +kernel
theorem d_Mo_set_37 : decode prog_13_method_14_code 37 = .ok (.ifCond .ne 5, 3) := by decide +kernel
theorem d_Mo_set_40 : decode prog_13_method_14_code 40 = .ok (.iconst (-1), 1) := by decide +kernel
theorem d_Mo_set_41 : decode prog_13_method_14_code 41 = .ok (.ireturn, 1) := by decide +kernel
theorem d_Mo_set_42 : decode prog_13_method_14_code 42 = .ok (.aload_n 0, 1) := by decide +kernel
theorem d_Mo_set_43 : decode prog_13_method_14_code 43 = .ok (.getfield 152, 3) := by decide +kernel
theorem d_Mo_set_46 : decode prog_13_method_14_code 46 = .ok (.istore_n 3, 1) := by decide +kernel
theorem d_Mo_set_47 : decode prog_13_method_14_code 47 = .ok (.aload_n 0, 1) := by decide +kernel
theorem d_Mo_set_48 : decode prog_13_method_14_code 48 = .ok (.iload_n 2, 1) := by decide +kernel
theorem d_Mo_set_49 : decode prog_13_method_14_code 49 = .ok (.putfield 152, 3) := by decide +kernel
theorem d_Mo_set_52 : decode prog_13_method_14_code 52 = .ok (.iload_n 3, 1) := by decide +kernel
theorem d_Mo_set_53 : decode prog_13_method_14_code 53 = .ok (.ireturn, 1) := by decide +kernel
def f_Mo_set_L26   (v1 : Int32) (v2 : Int32) (x_o_rest : Int32) (x_o_shy : Int32) : Option (Int32 × Int32 × Int32) :=
  if v1 = (1 : Int32) then
    ((f_Mo_in  v2 (0 : Int32) (1 : Int32)).bind fun r1 =>
    if r1 = true then
      (some (x_o_shy, x_o_rest, v2))
    else
      (some ((-1 : Int32), x_o_rest, x_o_shy)))
  else
    (some ((-1 : Int32), x_o_rest, x_o_shy))
set_option maxRecDepth 20000 in
theorem w_Mo_set_L26 {p : Program} {l : Launch} {e : Env} {s : State} {m : MethodId} {args : Array Value} {below : List Frame} {meth : Method} {c : Code} {D : va_G} {dA : Nat → ClassId} {A : Nat → Prop} (C : GC p s m args meth c prog_13_method_14_code 4 "OneLampModel" (some .int) D dA A) {a_o a_o_had a_o_told a_o_barred a_o_cost a_o_last a_o_often a_o_changeOf a_o_changeAt a_o_before a_o_behind a_o_tape a_o_act a_o_with a_o_lineMany a_o_testEnd a_o_lineEnd a_o_facts a_o_pile a_o_way a_o_bestWay a_o_wasHad a_o_wasLast a_o_keptHad a_o_keptTold a_o_keptLast a_o_keptOften a_o_kind a_o_traced a_o_holds a_o_size a_o_elements a_o_shifted : Nat} {x_o_code : Int32} {x_o_lamps : Int32} {x_o_at : Int32} {x_o_night : Int32} {x_o_spent : Int32} {x_o_hasBegun : Bool} {x_o_doneMany : Int32} {x_o_undoneMany : Int32} {x_o_taped : Int32} {x_o_here : Int32} {x_o_fault : Int32} {x_o_open : Int32} {x_o_laid : Int32} {x_o_hasLaw : Bool} {x_o_bestMany : Int32} {x_o_wasAt : Int32} {x_o_wasNight : Int32} {x_o_hasImage : Bool} {x_o_keptLamps : Int32} {x_o_keptAt : Int32} {x_o_keptNight : Int32} {x_o_keptSpent : Int32} {x_o_bodies : Int32} {x_o_traces : Int32} {r0 : Int32} {o_x_o_rest : Int32} {o_x_o_shy : Int32}    (v1 : Int32) (v2 : Int32) (x_o_rest : Int32) (x_o_shy : Int32) (hf : f_Mo_set_L26   v1 v2 x_o_rest x_o_shy = some (r0, o_x_o_rest, o_x_o_shy)) : GG p l e { frames := 1, cells := 0, slots := 0, locals := 22 } s m args below meth c 4 D A 0 0 (MQ below (cQ D A (some (.int r0)) (fun _ : Unit => [O_Mo a_o x_o_code x_o_lamps x_o_at x_o_night x_o_spent o_x_o_rest o_x_o_shy a_o_had a_o_told a_o_barred a_o_cost a_o_last a_o_often x_o_hasBegun x_o_doneMany x_o_undoneMany a_o_changeOf a_o_changeAt a_o_before a_o_behind a_o_tape x_o_taped x_o_here x_o_fault x_o_open x_o_laid a_o_act a_o_with a_o_lineMany a_o_testEnd a_o_lineEnd a_o_facts a_o_pile x_o_hasLaw a_o_way a_o_bestWay x_o_bestMany a_o_wasHad a_o_wasLast x_o_wasAt x_o_wasNight x_o_hasImage x_o_keptLamps x_o_keptAt x_o_keptNight x_o_keptSpent a_o_keptHad a_o_keptTold a_o_keptLast a_o_keptOften x_o_bodies a_o_kind x_o_traces a_o_traced a_o_holds a_o_size a_o_elements a_o_shifted])) args s 0 0 A) 26 [(0, .ref a_o), (1, .int v1), (2, .int v2)] [] [O_Mo a_o x_o_code x_o_lamps x_o_at x_o_night x_o_spent x_o_rest x_o_shy a_o_had a_o_told a_o_barred a_o_cost a_o_last a_o_often x_o_hasBegun x_o_doneMany x_o_undoneMany a_o_changeOf a_o_changeAt a_o_before a_o_behind a_o_tape x_o_taped x_o_here x_o_fault x_o_open x_o_laid a_o_act a_o_with a_o_lineMany a_o_testEnd a_o_lineEnd a_o_facts a_o_pile x_o_hasLaw a_o_way a_o_bestWay x_o_bestMany a_o_wasHad a_o_wasLast x_o_wasAt x_o_wasNight x_o_hasImage x_o_keptLamps x_o_keptAt x_o_keptNight x_o_keptSpent a_o_keptHad a_o_keptTold a_o_keptLast a_o_keptOften x_o_bodies a_o_kind x_o_traces a_o_traced a_o_holds a_o_size a_o_elements a_o_shifted] := by
  unfold f_Mo_set_L26 at hf
  refine g_iload_n (pc' := 27) C 1 d_Mo_set_26 rfl rfl ?_
  refine g_iconst (pc' := 28) (v := 1) C d_Mo_set_27 rfl rfl ?_
  refine g_icmp_ne (pc' := 31) (tgt := 40) C d_Mo_set_28 rfl rfl (fun h => ?_) (fun h => ?_)
  · replace hf := g_in h hf
    refine g_iconst (pc' := 41) (v := (-1)) C d_Mo_set_40 rfl rfl ?_
    replace hf := g_o2 hf; obtain ⟨h1, hf⟩ := hf; subst h1
    replace hf := g_o2 hf; obtain ⟨h1, hf⟩ := hf; subst h1
    replace hf := Option.some.inj hf; subst hf
    exact g_iret C d_Mo_set_41 () rfl
  · replace hf := g_ip h hf
    refine g_iload_n (pc' := 32) C 2 d_Mo_set_31 rfl rfl ?_
    refine g_iconst (pc' := 33) (v := 0) C d_Mo_set_32 rfl rfl ?_
    refine g_iconst (pc' := 34) (v := 1) C d_Mo_set_33 rfl rfl ?_
    replace hf := g_bi hf; obtain ⟨r1, hc2, hf⟩ := hf
    refine g_callS (pc' := 37) (st1 := [.int (b2i r1)]) (ws1 := [O_Mo a_o x_o_code x_o_lamps x_o_at x_o_night x_o_spent x_o_rest x_o_shy a_o_had a_o_told a_o_barred a_o_cost a_o_last a_o_often x_o_hasBegun x_o_doneMany x_o_undoneMany a_o_changeOf a_o_changeAt a_o_before a_o_behind a_o_tape x_o_taped x_o_here x_o_fault x_o_open x_o_laid a_o_act a_o_with a_o_lineMany a_o_testEnd a_o_lineEnd a_o_facts a_o_pile x_o_hasLaw a_o_way a_o_bestWay x_o_bestMany a_o_wasHad a_o_wasLast x_o_wasAt x_o_wasNight x_o_hasImage x_o_keptLamps x_o_keptAt x_o_keptNight x_o_keptSpent a_o_keptHad a_o_keptTold a_o_keptLast a_o_keptOften x_o_bodies a_o_kind x_o_traces a_o_traced a_o_holds a_o_size a_o_elements a_o_shifted]) C (c_Mo_in (l := l) (D := D) (dA := dA)    hc2) yy_Mo_in mw_5_80 d_Mo_set_34 rfl [] rfl rfl (Nat.le_of_ble_eq_true rfl) ⟨Nat.le_of_ble_eq_true rfl, Nat.le_of_ble_eq_true rfl⟩ rfl rfl (Nat.zero_le _) (Nat.zero_le _) [] rfl (by decide +kernel) rfl (g_lay_sel _ _ _ _ [(0, false)] (by decide +kernel) rfl (by decide +kernel) rfl rfl) rfl ?_
    refine g_if_neb (pc' := 40) (tgt := 42) C d_Mo_set_37 rfl rfl (fun h => ?_) (fun h => ?_)
    · replace hf := g_bt h hf
      refine g_aload_n (pc' := 43) C 0 d_Mo_set_42 rfl rfl ?_
      refine g_get (pc' := 46) C kf_Mo 6 mw_4_144 d_Mo_set_43 rfl 0 rfl (by decide) rfl ?_
      refine g_istore_n (pc' := 47) (lv' := [(3, .int x_o_shy), (0, .ref a_o), (1, .int v1), (2, .int v2)]) C d_Mo_set_46 rfl (by decide) rfl ?_
      refine g_aload_n (pc' := 48) C 1 d_Mo_set_47 rfl rfl ?_
      refine g_iload_n (pc' := 49) C 3 d_Mo_set_48 rfl rfl ?_
      refine g_put (pc' := 52) (ws' := [O_Mo a_o x_o_code x_o_lamps x_o_at x_o_night x_o_spent x_o_rest v2 a_o_had a_o_told a_o_barred a_o_cost a_o_last a_o_often x_o_hasBegun x_o_doneMany x_o_undoneMany a_o_changeOf a_o_changeAt a_o_before a_o_behind a_o_tape x_o_taped x_o_here x_o_fault x_o_open x_o_laid a_o_act a_o_with a_o_lineMany a_o_testEnd a_o_lineEnd a_o_facts a_o_pile x_o_hasLaw a_o_way a_o_bestWay x_o_bestMany a_o_wasHad a_o_wasLast x_o_wasAt x_o_wasNight x_o_hasImage x_o_keptLamps x_o_keptAt x_o_keptNight x_o_keptSpent a_o_keptHad a_o_keptTold a_o_keptLast a_o_keptOften x_o_bodies a_o_kind x_o_traces a_o_traced a_o_holds a_o_size a_o_elements a_o_shifted]) C kf_Mo 6 mw_4_144 d_Mo_set_49 rfl 0 rfl (by decide) rfl rfl rfl (Nat.le_of_ble_eq_true rfl) rfl ?_
      refine g_iload_n (pc' := 53) C 0 d_Mo_set_52 rfl rfl ?_
      replace hf := g_o2 hf; obtain ⟨h1, hf⟩ := hf; subst h1
      replace hf := g_o2 hf; obtain ⟨h1, hf⟩ := hf; subst h1
      replace hf := Option.some.inj hf; subst hf
      exact g_iret C d_Mo_set_53 () rfl
    · replace hf := g_bf h hf
      refine g_iconst (pc' := 41) (v := (-1)) C d_Mo_set_40 rfl rfl ?_
      replace hf := g_o2 hf; obtain ⟨h1, hf⟩ := hf; subst h1
      replace hf := g_o2 hf; obtain ⟨h1, hf⟩ := hf; subst h1
      replace hf := Option.some.inj hf; subst hf
      exact g_iret C d_Mo_set_41 () rfl
def f_Mo_set  (p1 : Int32) (p2 : Int32) (x_o_rest : Int32) (x_o_shy : Int32) : Option (Int32 × Int32 × Int32) :=
  if p1 = 0 then
    ((f_Mo_in  p2 (0 : Int32) (9 : Int32)).bind fun r3 =>
    if r3 = true then
      (some (x_o_rest, p2, x_o_shy))
    else
      (f_Mo_set_L26  p1 p2 x_o_rest x_o_shy))
  else
    (f_Mo_set_L26  p1 p2 x_o_rest x_o_shy)
set_option maxRecDepth 20000 in
theorem c_Mo_set {l : Launch} {D : va_G} {dA : Nat → ClassId} {a_o a_o_had a_o_told a_o_barred a_o_cost a_o_last a_o_often a_o_changeOf a_o_changeAt a_o_before a_o_behind a_o_tape a_o_act a_o_with a_o_lineMany a_o_testEnd a_o_lineEnd a_o_facts a_o_pile a_o_way a_o_bestWay a_o_wasHad a_o_wasLast a_o_keptHad a_o_keptTold a_o_keptLast a_o_keptOften a_o_kind a_o_traced a_o_holds a_o_size a_o_elements a_o_shifted : Nat} {x_o_code : Int32} {x_o_lamps : Int32} {x_o_at : Int32} {x_o_night : Int32} {x_o_spent : Int32} {x_o_hasBegun : Bool} {x_o_doneMany : Int32} {x_o_undoneMany : Int32} {x_o_taped : Int32} {x_o_here : Int32} {x_o_fault : Int32} {x_o_open : Int32} {x_o_laid : Int32} {x_o_hasLaw : Bool} {x_o_bestMany : Int32} {x_o_wasAt : Int32} {x_o_wasNight : Int32} {x_o_hasImage : Bool} {x_o_keptLamps : Int32} {x_o_keptAt : Int32} {x_o_keptNight : Int32} {x_o_keptSpent : Int32} {x_o_bodies : Int32} {x_o_traces : Int32} {p1 : Int32} {p2 : Int32} {x_o_rest : Int32} {x_o_shy : Int32} {r0 : Int32} {o_x_o_rest : Int32} {o_x_o_shy : Int32}   (hf : f_Mo_set  p1 p2 x_o_rest x_o_shy = some (r0, o_x_o_rest, o_x_o_shy)) : CT l y_Mo_set prog_13_method_14_code 4 (some .int) { frames := 1, cells := 0, slots := 0, locals := 22 } D dA [.ref a_o, .int p1, .int p2] [O_Mo a_o x_o_code x_o_lamps x_o_at x_o_night x_o_spent x_o_rest x_o_shy a_o_had a_o_told a_o_barred a_o_cost a_o_last a_o_often x_o_hasBegun x_o_doneMany x_o_undoneMany a_o_changeOf a_o_changeAt a_o_before a_o_behind a_o_tape x_o_taped x_o_here x_o_fault x_o_open x_o_laid a_o_act a_o_with a_o_lineMany a_o_testEnd a_o_lineEnd a_o_facts a_o_pile x_o_hasLaw a_o_way a_o_bestWay x_o_bestMany a_o_wasHad a_o_wasLast x_o_wasAt x_o_wasNight x_o_hasImage x_o_keptLamps x_o_keptAt x_o_keptNight x_o_keptSpent a_o_keptHad a_o_keptTold a_o_keptLast a_o_keptOften x_o_bodies a_o_kind x_o_traces a_o_traced a_o_holds a_o_size a_o_elements a_o_shifted] (some (.int r0)) (fun _ : Unit => [O_Mo a_o x_o_code x_o_lamps x_o_at x_o_night x_o_spent o_x_o_rest o_x_o_shy a_o_had a_o_told a_o_barred a_o_cost a_o_last a_o_often x_o_hasBegun x_o_doneMany x_o_undoneMany a_o_changeOf a_o_changeAt a_o_before a_o_behind a_o_tape x_o_taped x_o_here x_o_fault x_o_open x_o_laid a_o_act a_o_with a_o_lineMany a_o_testEnd a_o_lineEnd a_o_facts a_o_pile x_o_hasLaw a_o_way a_o_bestWay x_o_bestMany a_o_wasHad a_o_wasLast x_o_wasAt x_o_wasNight x_o_hasImage x_o_keptLamps x_o_keptAt x_o_keptNight x_o_keptSpent a_o_keptHad a_o_keptTold a_o_keptLast a_o_keptOften x_o_bodies a_o_kind x_o_traces a_o_traced a_o_holds a_o_size a_o_elements a_o_shifted]) := by
  refine ct_intro "OneLampModel" rfl (by decide +kernel) (Nat.le_of_ble_eq_true rfl) [(0, .ref a_o), (1, .int p1), (2, .int p2)] rfl (fun _ C => ?_)
  unfold f_Mo_set at hf
  refine g_iload_n (pc' := 1) C 1 d_Mo_set_0 rfl rfl ?_
  refine g_if_ne (pc' := 4) (tgt := 26) C d_Mo_set_1 rfl rfl (fun h => ?_) (fun h => ?_)
  · replace hf := g_in h hf
    exact w_Mo_set_L26 (a_o := a_o) (a_o_had := a_o_had) (a_o_told := a_o_told) (a_o_barred := a_o_barred) (a_o_cost := a_o_cost) (a_o_last := a_o_last) (a_o_often := a_o_often) (a_o_changeOf := a_o_changeOf) (a_o_changeAt := a_o_changeAt) (a_o_before := a_o_before) (a_o_behind := a_o_behind) (a_o_tape := a_o_tape) (a_o_act := a_o_act) (a_o_with := a_o_with) (a_o_lineMany := a_o_lineMany) (a_o_testEnd := a_o_testEnd) (a_o_lineEnd := a_o_lineEnd) (a_o_facts := a_o_facts) (a_o_pile := a_o_pile) (a_o_way := a_o_way) (a_o_bestWay := a_o_bestWay) (a_o_wasHad := a_o_wasHad) (a_o_wasLast := a_o_wasLast) (a_o_keptHad := a_o_keptHad) (a_o_keptTold := a_o_keptTold) (a_o_keptLast := a_o_keptLast) (a_o_keptOften := a_o_keptOften) (a_o_kind := a_o_kind) (a_o_traced := a_o_traced) (a_o_holds := a_o_holds) (a_o_size := a_o_size) (a_o_elements := a_o_elements) (a_o_shifted := a_o_shifted) C   p1 p2 x_o_rest x_o_shy hf
  · replace hf := g_ip h hf
    refine g_iload_n (pc' := 5) C 2 d_Mo_set_4 rfl rfl ?_
    refine g_iconst (pc' := 6) (v := 0) C d_Mo_set_5 rfl rfl ?_
    refine g_bipush (pc' := 8) (v := 9) C d_Mo_set_6 rfl rfl ?_
    replace hf := g_bi hf; obtain ⟨r3, hc4, hf⟩ := hf
    refine g_callS (pc' := 11) (st1 := [.int (b2i r3)]) (ws1 := [O_Mo a_o x_o_code x_o_lamps x_o_at x_o_night x_o_spent x_o_rest x_o_shy a_o_had a_o_told a_o_barred a_o_cost a_o_last a_o_often x_o_hasBegun x_o_doneMany x_o_undoneMany a_o_changeOf a_o_changeAt a_o_before a_o_behind a_o_tape x_o_taped x_o_here x_o_fault x_o_open x_o_laid a_o_act a_o_with a_o_lineMany a_o_testEnd a_o_lineEnd a_o_facts a_o_pile x_o_hasLaw a_o_way a_o_bestWay x_o_bestMany a_o_wasHad a_o_wasLast x_o_wasAt x_o_wasNight x_o_hasImage x_o_keptLamps x_o_keptAt x_o_keptNight x_o_keptSpent a_o_keptHad a_o_keptTold a_o_keptLast a_o_keptOften x_o_bodies a_o_kind x_o_traces a_o_traced a_o_holds a_o_size a_o_elements a_o_shifted]) C (c_Mo_in (l := l) (D := D) (dA := dA)    hc4) yy_Mo_in mw_5_80 d_Mo_set_8 rfl [] rfl rfl (Nat.le_of_ble_eq_true rfl) ⟨Nat.le_of_ble_eq_true rfl, Nat.le_of_ble_eq_true rfl⟩ rfl rfl (Nat.zero_le _) (Nat.zero_le _) [] rfl (by decide +kernel) rfl (g_lay_sel _ _ _ _ [(0, false)] (by decide +kernel) rfl (by decide +kernel) rfl rfl) rfl ?_
    refine g_if_eqb (pc' := 14) (tgt := 26) C d_Mo_set_11 rfl rfl (fun h => ?_) (fun h => ?_)
    · replace hf := g_bf h hf
      exact w_Mo_set_L26 (a_o := a_o) (a_o_had := a_o_had) (a_o_told := a_o_told) (a_o_barred := a_o_barred) (a_o_cost := a_o_cost) (a_o_last := a_o_last) (a_o_often := a_o_often) (a_o_changeOf := a_o_changeOf) (a_o_changeAt := a_o_changeAt) (a_o_before := a_o_before) (a_o_behind := a_o_behind) (a_o_tape := a_o_tape) (a_o_act := a_o_act) (a_o_with := a_o_with) (a_o_lineMany := a_o_lineMany) (a_o_testEnd := a_o_testEnd) (a_o_lineEnd := a_o_lineEnd) (a_o_facts := a_o_facts) (a_o_pile := a_o_pile) (a_o_way := a_o_way) (a_o_bestWay := a_o_bestWay) (a_o_wasHad := a_o_wasHad) (a_o_wasLast := a_o_wasLast) (a_o_keptHad := a_o_keptHad) (a_o_keptTold := a_o_keptTold) (a_o_keptLast := a_o_keptLast) (a_o_keptOften := a_o_keptOften) (a_o_kind := a_o_kind) (a_o_traced := a_o_traced) (a_o_holds := a_o_holds) (a_o_size := a_o_size) (a_o_elements := a_o_elements) (a_o_shifted := a_o_shifted) C   p1 p2 x_o_rest x_o_shy hf
    · replace hf := g_bt h hf
      refine g_aload_n (pc' := 15) C 0 d_Mo_set_14 rfl rfl ?_
      refine g_get (pc' := 18) C kf_Mo 5 mw_4_143 d_Mo_set_15 rfl 0 rfl (by decide) rfl ?_
      refine g_istore_n (pc' := 19) (lv' := [(3, .int x_o_rest), (0, .ref a_o), (1, .int p1), (2, .int p2)]) C d_Mo_set_18 rfl (by decide) rfl ?_
      refine g_aload_n (pc' := 20) C 1 d_Mo_set_19 rfl rfl ?_
      refine g_iload_n (pc' := 21) C 3 d_Mo_set_20 rfl rfl ?_
      refine g_put (pc' := 24) (ws' := [O_Mo a_o x_o_code x_o_lamps x_o_at x_o_night x_o_spent p2 x_o_shy a_o_had a_o_told a_o_barred a_o_cost a_o_last a_o_often x_o_hasBegun x_o_doneMany x_o_undoneMany a_o_changeOf a_o_changeAt a_o_before a_o_behind a_o_tape x_o_taped x_o_here x_o_fault x_o_open x_o_laid a_o_act a_o_with a_o_lineMany a_o_testEnd a_o_lineEnd a_o_facts a_o_pile x_o_hasLaw a_o_way a_o_bestWay x_o_bestMany a_o_wasHad a_o_wasLast x_o_wasAt x_o_wasNight x_o_hasImage x_o_keptLamps x_o_keptAt x_o_keptNight x_o_keptSpent a_o_keptHad a_o_keptTold a_o_keptLast a_o_keptOften x_o_bodies a_o_kind x_o_traces a_o_traced a_o_holds a_o_size a_o_elements a_o_shifted]) C kf_Mo 5 mw_4_143 d_Mo_set_21 rfl 0 rfl (by decide) rfl rfl rfl (Nat.le_of_ble_eq_true rfl) rfl ?_
      refine g_iload_n (pc' := 25) C 0 d_Mo_set_24 rfl rfl ?_
      replace hf := g_o2 hf; obtain ⟨h1, hf⟩ := hf; subst h1
      replace hf := g_o2 hf; obtain ⟨h1, hf⟩ := hf; subst h1
      replace hf := Option.some.inj hf; subst hf
      exact g_iret C d_Mo_set_25 () rfl
def y_Mo_valueAt : MethodName := ⟨"OneLampModel", "valueAt", "(II)I"⟩
theorem yy_Mo_valueAt : YV y_Mo_valueAt prog_13_method_15_code 3 (some .int) 2 := ⟨mw_5_137, mw_1_12, mw_5_136, tm_s (y := y_Mo_valueAt) (n := 58) (by decide +kernel), by decide +kernel, by decide +kernel, by decide +kernel⟩
theorem d_Mo_valueAt_0 : decode prog_13_method_15_code 0 = .ok (.aload_n 0, 1) := by decide +kernel
theorem d_Mo_valueAt_1 : decode prog_13_method_15_code 1 = .ok (.getfield 23, 3) := by decide +kernel
theorem d_Mo_valueAt_4 : decode prog_13_method_15_code 4 = .ok (.iload_n 2, 1) := by decide +kernel
theorem d_Mo_valueAt_5 : decode prog_13_method_15_code 5 = .ok (.iaload, 1) := by decide +kernel
theorem d_Mo_valueAt_6 : decode prog_13_method_15_code 6 = .ok (.ireturn, 1) := by decide +kernel
def f_Mo_valueAt  (p1 : Int32) (p2 : Int32) (x_o_cost : Nat → Int32) : Option (Int32) :=
  if p2 < 0 ∨ 10 ≤ Int32.toNatClampNeg p2 then none else
  some ((x_o_cost (Int32.toNatClampNeg p2)))
set_option maxRecDepth 20000 in
theorem c_Mo_valueAt {l : Launch} {D : va_G} {dA : Nat → ClassId} {a_o a_o_had a_o_told a_o_barred a_o_cost a_o_last a_o_often a_o_changeOf a_o_changeAt a_o_before a_o_behind a_o_tape a_o_act a_o_with a_o_lineMany a_o_testEnd a_o_lineEnd a_o_facts a_o_pile a_o_way a_o_bestWay a_o_wasHad a_o_wasLast a_o_keptHad a_o_keptTold a_o_keptLast a_o_keptOften a_o_kind a_o_traced a_o_holds a_o_size a_o_elements a_o_shifted : Nat} {x_o_code : Int32} {x_o_lamps : Int32} {x_o_at : Int32} {x_o_night : Int32} {x_o_spent : Int32} {x_o_rest : Int32} {x_o_shy : Int32} {x_o_hasBegun : Bool} {x_o_doneMany : Int32} {x_o_undoneMany : Int32} {x_o_taped : Int32} {x_o_here : Int32} {x_o_fault : Int32} {x_o_open : Int32} {x_o_laid : Int32} {x_o_hasLaw : Bool} {x_o_bestMany : Int32} {x_o_wasAt : Int32} {x_o_wasNight : Int32} {x_o_hasImage : Bool} {x_o_keptLamps : Int32} {x_o_keptAt : Int32} {x_o_keptNight : Int32} {x_o_keptSpent : Int32} {x_o_bodies : Int32} {x_o_traces : Int32} {p1 : Int32} {p2 : Int32} {x_o_cost : Nat → Int32} {r0 : Int32}   (hf : f_Mo_valueAt  p1 p2 x_o_cost = some r0) : CT l y_Mo_valueAt prog_13_method_15_code 3 (some .int) { frames := 0, cells := 0, slots := 0, locals := 0 } D dA [.ref a_o, .int p1, .int p2] [O_Mo a_o x_o_code x_o_lamps x_o_at x_o_night x_o_spent x_o_rest x_o_shy a_o_had a_o_told a_o_barred a_o_cost a_o_last a_o_often x_o_hasBegun x_o_doneMany x_o_undoneMany a_o_changeOf a_o_changeAt a_o_before a_o_behind a_o_tape x_o_taped x_o_here x_o_fault x_o_open x_o_laid a_o_act a_o_with a_o_lineMany a_o_testEnd a_o_lineEnd a_o_facts a_o_pile x_o_hasLaw a_o_way a_o_bestWay x_o_bestMany a_o_wasHad a_o_wasLast x_o_wasAt x_o_wasNight x_o_hasImage x_o_keptLamps x_o_keptAt x_o_keptNight x_o_keptSpent a_o_keptHad a_o_keptTold a_o_keptLast a_o_keptOften x_o_bodies a_o_kind x_o_traces a_o_traced a_o_holds a_o_size a_o_elements a_o_shifted, A_I dA a_o_cost 10 x_o_cost] (some (.int r0)) (fun _ : Unit => [O_Mo a_o x_o_code x_o_lamps x_o_at x_o_night x_o_spent x_o_rest x_o_shy a_o_had a_o_told a_o_barred a_o_cost a_o_last a_o_often x_o_hasBegun x_o_doneMany x_o_undoneMany a_o_changeOf a_o_changeAt a_o_before a_o_behind a_o_tape x_o_taped x_o_here x_o_fault x_o_open x_o_laid a_o_act a_o_with a_o_lineMany a_o_testEnd a_o_lineEnd a_o_facts a_o_pile x_o_hasLaw a_o_way a_o_bestWay x_o_bestMany a_o_wasHad a_o_wasLast x_o_wasAt x_o_wasNight x_o_hasImage x_o_keptLamps x_o_keptAt x_o_keptNight x_o_keptSpent a_o_keptHad a_o_keptTold a_o_keptLast a_o_keptOften x_o_bodies a_o_kind x_o_traces a_o_traced a_o_holds a_o_size a_o_elements a_o_shifted, A_I dA a_o_cost 10 x_o_cost]) := by
  refine ct_intro "OneLampModel" rfl (by decide +kernel) (Nat.le_of_ble_eq_true rfl) [(0, .ref a_o), (1, .int p1), (2, .int p2)] rfl (fun _ C => ?_)
  unfold f_Mo_valueAt at hf
  refine g_aload_n (pc' := 1) C 0 d_Mo_valueAt_0 rfl rfl ?_
  refine g_get (pc' := 4) C kf_Mo 10 mw_4_148 d_Mo_valueAt_1 rfl 0 rfl (by decide) rfl ?_
  refine g_iload_n (pc' := 5) C 2 d_Mo_valueAt_4 rfl rfl ?_
  have hb := g_ck hf
  replace hf := g_in hb hf
  refine g_iald (pc' := 6) C d_Mo_valueAt_5 rfl 1 rfl hb ?_
  replace hf := Option.some.inj hf; subst hf
  exact g_iret C d_Mo_valueAt_6 () rfl
def y_Mo_lays : MethodName := ⟨"OneLampModel", "lays", "(III)V"⟩
theorem yy_Mo_lays : YV y_Mo_lays prog_13_method_16_code 4 none 3 := ⟨mw_5_121, mw_1_12, mw_5_120, tm_s (y := y_Mo_lays) (n := 58) (by decide +kernel), by decide +kernel, by decide +kernel, by decide +kernel⟩
theorem d_Mo_lays_0 : decode prog_13_method_16_code 0 = .ok (.aload_n 0, 1) := by decide +kernel
theorem d_Mo_lays_1 : decode prog_13_method_16_code 1 = .ok (.getfield 23, 3) := by decide +kernel
theorem d_Mo_lays_4 : decode prog_13_method_16_code 4 = .ok (.iload_n 2, 1) := by decide +kernel
theorem d_Mo_lays_5 : decode prog_13_method_16_code 5 = .ok (.iload_n 3, 1) := by decide +kernel
theorem d_Mo_lays_6 : decode prog_13_method_16_code 6 = .ok (.iastore, 1) := by decide +kernel
theorem d_Mo_lays_7 : decode prog_13_method_16_code 7 = .ok (.return_, 1) := by decide +kernel
def f_Mo_lays  (p1 : Int32) (p2 : Int32) (p3 : Int32) (x_o_cost : Nat → Int32) : Option ((Nat → Int32)) :=
  if p2 < 0 ∨ 10 ≤ Int32.toNatClampNeg p2 then none else
  some ((upd x_o_cost (Int32.toNatClampNeg p2) p3))
set_option maxRecDepth 20000 in
theorem c_Mo_lays {l : Launch} {D : va_G} {dA : Nat → ClassId} {a_o a_o_had a_o_told a_o_barred a_o_cost a_o_last a_o_often a_o_changeOf a_o_changeAt a_o_before a_o_behind a_o_tape a_o_act a_o_with a_o_lineMany a_o_testEnd a_o_lineEnd a_o_facts a_o_pile a_o_way a_o_bestWay a_o_wasHad a_o_wasLast a_o_keptHad a_o_keptTold a_o_keptLast a_o_keptOften a_o_kind a_o_traced a_o_holds a_o_size a_o_elements a_o_shifted : Nat} {x_o_code : Int32} {x_o_lamps : Int32} {x_o_at : Int32} {x_o_night : Int32} {x_o_spent : Int32} {x_o_rest : Int32} {x_o_shy : Int32} {x_o_hasBegun : Bool} {x_o_doneMany : Int32} {x_o_undoneMany : Int32} {x_o_taped : Int32} {x_o_here : Int32} {x_o_fault : Int32} {x_o_open : Int32} {x_o_laid : Int32} {x_o_hasLaw : Bool} {x_o_bestMany : Int32} {x_o_wasAt : Int32} {x_o_wasNight : Int32} {x_o_hasImage : Bool} {x_o_keptLamps : Int32} {x_o_keptAt : Int32} {x_o_keptNight : Int32} {x_o_keptSpent : Int32} {x_o_bodies : Int32} {x_o_traces : Int32} {p1 : Int32} {p2 : Int32} {p3 : Int32} {x_o_cost : Nat → Int32} {o_x_o_cost : Nat → Int32}   (hf : f_Mo_lays  p1 p2 p3 x_o_cost = some o_x_o_cost) : CT l y_Mo_lays prog_13_method_16_code 4 none { frames := 0, cells := 0, slots := 0, locals := 0 } D dA [.ref a_o, .int p1, .int p2, .int p3] [O_Mo a_o x_o_code x_o_lamps x_o_at x_o_night x_o_spent x_o_rest x_o_shy a_o_had a_o_told a_o_barred a_o_cost a_o_last a_o_often x_o_hasBegun x_o_doneMany x_o_undoneMany a_o_changeOf a_o_changeAt a_o_before a_o_behind a_o_tape x_o_taped x_o_here x_o_fault x_o_open x_o_laid a_o_act a_o_with a_o_lineMany a_o_testEnd a_o_lineEnd a_o_facts a_o_pile x_o_hasLaw a_o_way a_o_bestWay x_o_bestMany a_o_wasHad a_o_wasLast x_o_wasAt x_o_wasNight x_o_hasImage x_o_keptLamps x_o_keptAt x_o_keptNight x_o_keptSpent a_o_keptHad a_o_keptTold a_o_keptLast a_o_keptOften x_o_bodies a_o_kind x_o_traces a_o_traced a_o_holds a_o_size a_o_elements a_o_shifted, A_I dA a_o_cost 10 x_o_cost] none (fun _ : Unit => [O_Mo a_o x_o_code x_o_lamps x_o_at x_o_night x_o_spent x_o_rest x_o_shy a_o_had a_o_told a_o_barred a_o_cost a_o_last a_o_often x_o_hasBegun x_o_doneMany x_o_undoneMany a_o_changeOf a_o_changeAt a_o_before a_o_behind a_o_tape x_o_taped x_o_here x_o_fault x_o_open x_o_laid a_o_act a_o_with a_o_lineMany a_o_testEnd a_o_lineEnd a_o_facts a_o_pile x_o_hasLaw a_o_way a_o_bestWay x_o_bestMany a_o_wasHad a_o_wasLast x_o_wasAt x_o_wasNight x_o_hasImage x_o_keptLamps x_o_keptAt x_o_keptNight x_o_keptSpent a_o_keptHad a_o_keptTold a_o_keptLast a_o_keptOften x_o_bodies a_o_kind x_o_traces a_o_traced a_o_holds a_o_size a_o_elements a_o_shifted, A_I dA a_o_cost 10 o_x_o_cost]) := by
  refine ct_intro "OneLampModel" rfl (by decide +kernel) (Nat.le_of_ble_eq_true rfl) [(0, .ref a_o), (1, .int p1), (2, .int p2), (3, .int p3)] rfl (fun _ C => ?_)
  unfold f_Mo_lays at hf
  refine g_aload_n (pc' := 1) C 0 d_Mo_lays_0 rfl rfl ?_
  refine g_get (pc' := 4) C kf_Mo 10 mw_4_148 d_Mo_lays_1 rfl 0 rfl (by decide) rfl ?_
  refine g_iload_n (pc' := 5) C 2 d_Mo_lays_4 rfl rfl ?_
  refine g_iload_n (pc' := 6) C 3 d_Mo_lays_5 rfl rfl ?_
  have hb := g_ck hf
  replace hf := g_in hb hf
  refine g_iast (pc' := 7) (ws' := [O_Mo a_o x_o_code x_o_lamps x_o_at x_o_night x_o_spent x_o_rest x_o_shy a_o_had a_o_told a_o_barred a_o_cost a_o_last a_o_often x_o_hasBegun x_o_doneMany x_o_undoneMany a_o_changeOf a_o_changeAt a_o_before a_o_behind a_o_tape x_o_taped x_o_here x_o_fault x_o_open x_o_laid a_o_act a_o_with a_o_lineMany a_o_testEnd a_o_lineEnd a_o_facts a_o_pile x_o_hasLaw a_o_way a_o_bestWay x_o_bestMany a_o_wasHad a_o_wasLast x_o_wasAt x_o_wasNight x_o_hasImage x_o_keptLamps x_o_keptAt x_o_keptNight x_o_keptSpent a_o_keptHad a_o_keptTold a_o_keptLast a_o_keptOften x_o_bodies a_o_kind x_o_traces a_o_traced a_o_holds a_o_size a_o_elements a_o_shifted, A_I dA a_o_cost 10 (upd x_o_cost (Int32.toNatClampNeg p2) p3)]) C d_Mo_lays_6 rfl 1 rfl hb rfl ?_
  replace hf := Option.some.inj hf; subst hf
  exact g_vret C d_Mo_lays_7 () rfl
def y_Mo_changes : MethodName := ⟨"OneLampModel", "changes", "(III)I"⟩
theorem yy_Mo_changes : YV y_Mo_changes prog_13_method_17_code 6 (some .int) 3 := ⟨mw_5_133, mw_1_12, mw_5_132, tm_s (y := y_Mo_changes) (n := 58) (by decide +kernel), by decide +kernel, by decide +kernel, by decide +kernel⟩
theorem d_Mo_changes_0 : decode prog_13_method_17_code 0 = .ok (.aload_n 0, 1) := by decide +kernel
theorem d_Mo_changes_1 : decode prog_13_method_17_code 1 = .ok (.iload_n 1, 1) := by decide +kernel
theorem d_Mo_changes_2 : decode prog_13_method_17_code 2 = .ok (.iload_n 2, 1) := by decide +kernel
theorem d_Mo_changes_3 : decode prog_13_method_17_code 3 = .ok (.invokevirtual 155, 3) := by decide +kernel
theorem d_Mo_changes_6 : decode prog_13_method_17_code 6 = .ok (.istore 4, 2) := by decide +kernel
theorem d_Mo_changes_8 : decode prog_13_method_17_code 8 = .ok (.iload 4, 2) := by decide +kernel
theorem d_Mo_changes_10 : decode prog_13_method_17_code 10 = .ok (.iload_n 3, 1) := by decide +kernel
theorem d_Mo_changes_11 : decode prog_13_method_17_code 11 = .ok (.if_icmp .ne 6, 3) := by decide +kernel
theorem d_Mo_changes_14 : decode prog_13_method_17_code 14 = .ok (.iload 4, 2) := by decide +kernel
theorem d_Mo_changes_16 : decode prog_13_method_17_code 16 = .ok (.ireturn, 1) := by decide +kernel
theorem d_Mo_changes_17 : decode prog_13_method_17_code 17 = .ok (.aload_n 0, 1) := by decide +kernel
theorem d_Mo_changes_18 : decode prog_13_method_17_code 18 = .ok (.iconst 0, 1) := by decide +kernel
theorem d_Mo_changes_19 : decode prog_13_method_17_code 19 = .ok (.putfield 159, 3) := by decide +kernel
theorem d_Mo_changes_22 : decode prog_13_method_17_code 22 = .ok (.aload_n 0, 1) := by decide +kernel
theorem d_Mo_changes_23 : decode prog_13_method_17_code 23 = .ok (.getfield 162, 3) := by decide +kernel
theorem d_Mo_changes_26 : decode prog_13_method_17_code 26 = .ok (.bipush 40, 2) := by decide +kernel
theorem d_Mo_changes_28 : decode prog_13_method_17_code 28 = .ok (.if_icmp .ne 93, 3) := by decide +kernel
theorem d_Mo_changes_31 : decode prog_13_method_17_code 31 = .ok (.iconst 1, 1) := by decide +kernel
theorem d_Mo_changes_32 : decode prog_13_method_17_code 32 = .ok (.istore 5, 2) := by decide +kernel
theorem d_Mo_changes_34 : decode prog_13_method_17_code 34 = .ok (.iload 5, 2) := by decide +kernel
theorem d_Mo_changes_36 : decode prog_13_method_17_code 36 = .ok (.bipush 40, 2) := by decide +kernel
theorem d_Mo_changes_38 : decode prog_13_method_17_code 38 = .ok (.if_icmp .ge 73, 3) := by decide +kernel
theorem d_Mo_changes_41 : decode prog_13_method_17_code 41 = .ok (.aload_n 0, 1) := by decide +kernel
theorem d_Mo_changes_42 : decode prog_13_method_17_code 42 = .ok (.getfield 33, 3) := by decide +kernel
theorem d_Mo_changes_45 : decode prog_13_method_17_code 45 = .ok (.iload 5, 2) := by decide +kernel
theorem d_Mo_changes_47 : decode prog_13_method_17_code 47 = .ok (.iconst 1, 1) := by decide +kernel
theorem d_Mo_changes_48 : decode prog_13_method_17_code 48 = .ok (.isub, 1) := by decide +kernel
theorem d_Mo_changes_49 : decode prog_13_method_17_code 49 = .ok (.aload_n 0, 1) := by decide +kernel
theorem d_Mo_changes_50 : decode prog_13_method_17_code 50 = .ok (.getfield 33, 3) := by decide +kernel
theorem d_Mo_changes_53 : decode prog_13_method_17_code 53 = .ok (.iload 5, 2) := by decide +kernel
theorem d_Mo_changes_55 : decode prog_13_method_17_code 55 = .ok (.iaload, 1) := by decide +kernel
theorem d_Mo_changes_56 : decode prog_13_method_17_code 56 = .ok (.iastore, 1) := by decide +kernel
theorem d_Mo_changes_57 : decode prog_13_method_17_code 57 = .ok (.aload_n 0, 1) := by decide +kernel
theorem d_Mo_changes_58 : decode prog_13_method_17_code 58 = .ok (.getfield 36, 3) := by decide +kernel
theorem d_Mo_changes_61 : decode prog_13_method_17_code 61 = .ok (.iload 5, 2) := by decide +kernel
theorem d_Mo_changes_63 : decode prog_13_method_17_code 63 = .ok (.iconst 1, 1) := by decide +kernel
theorem d_Mo_changes_64 : decode prog_13_method_17_code 64 = .ok (.isub, 1) := by decide +kernel
theorem d_Mo_changes_65 : decode prog_13_method_17_code 65 = .ok (.aload_n 0, 1) := by decide +kernel
theorem d_Mo_changes_66 : decode prog_13_method_17_code 66 = .ok (.getfield 36, 3) := by decide +kernel
theorem d_Mo_changes_69 : decode prog_13_method_17_code 69 = .ok (.iload 5, 2) := by decide +kernel
theorem d_Mo_changes_71 : decode prog_13_method_17_code 71 = .ok (.iaload, 1) := by decide +kernel
theorem d_Mo_changes_72 : decode prog_13_method_17_code 72 = .ok (.iastore, 1) := by decide +kernel
theorem d_Mo_changes_73 : decode prog_13_method_17_code 73 = .ok (.aload_n 0, 1) := by decide +kernel
theorem d_Mo_changes_74 : decode prog_13_method_17_code 74 = .ok (.getfield 39, 3) := by decide +kernel
theorem d_Mo_changes_77 : decode prog_13_method_17_code 77 = .ok (.iload 5, 2) := by decide +kernel
theorem d_Mo_changes_79 : decode prog_13_method_17_code 79 = .ok (.iconst 1, 1) := by decide +kernel
theorem d_Mo_changes_80 : decode prog_13_method_17_code 80 = .ok (.isub, 1) := by decide +kernel
theorem d_Mo_changes_81 : decode prog_13_method_17_code 81 = .ok (.aload_n 0, 1) := by decide +kernel
theorem d_Mo_changes_82 : decode prog_13_method_17_code 82 = .ok (.getfield 39, 3) := by decide +kernel
theorem d_Mo_changes_85 : decode prog_13_method_17_code 85 = .ok (.iload 5, 2) := by decide +kernel
theorem d_Mo_changes_87 : decode prog_13_method_17_code 87 = .ok (.iaload, 1) := by decide +kernel
theorem d_Mo_changes_88 : decode prog_13_method_17_code 88 = .ok (.iastore, 1) := by decide +kernel
theorem d_Mo_changes_89 : decode prog_13_method_17_code 89 = .ok (.aload_n 0, 1) := by decide +kernel
theorem d_Mo_changes_90 : decode prog_13_method_17_code 90 = .ok (.getfield 42, 3) := by decide +kernel
theorem d_Mo_changes_93 : decode prog_13_method_17_code 93 = .ok (.iload 5, 2) := by decide +kernel
theorem d_Mo_changes_95 : decode prog_13_method_17_code 95 = .ok (.iconst 1, 1) := by decide +kernel
theorem d_Mo_changes_96 : decode prog_13_method_17_code 96 = .ok (.isub, 1) := by decide +kernel
theorem d_Mo_changes_97 : decode prog_13_method_17_code 97 = .ok (.aload_n 0, 1) := by decide +kernel
theorem d_Mo_changes_98 : decode prog_13_method_17_code 98 = .ok (.getfield 42, 3) := by decide +kernel
theorem d_Mo_changes_101 : decode prog_13_method_17_code 101 = .ok (.iload 5, 2) := by decide +kernel
theorem d_Mo_changes_103 : decode prog_13_method_17_code 103 = .ok (.iaload, 1) := by decide +kernel
theorem d_Mo_changes_104 : decode prog_13_method_17_code 104 = .ok (.iastore, 1) := by decide +kernel
theorem d_Mo_changes_105 : decode prog_13_method_17_code 105 = .ok (.iinc 5 1, 3) := by decide +kernel
theorem d_Mo_changes_108 : decode prog_13_method_17_code 108 = .ok (.goto (-74), 3) := by decide +kernel
theorem d_Mo_changes_111 : decode prog_13_method_17_code 111 = .ok (.aload_n 0, 1) := by decide +kernel
theorem d_Mo_changes_112 : decode prog_13_method_17_code 112 = .ok (.dup, 1) := by decide +kernel
theorem d_Mo_changes_113 : decode prog_13_method_17_code 113 = .ok (.getfield 162, 3) := by decide +kernel
theorem d_Mo_changes_116 : decode prog_13_method_17_code 116 = .ok (.iconst 1, 1) := by decide +kernel
theorem d_Mo_changes_117 : decode prog_13_method_17_code 117 = .ok (.isub, 1) := by decide +kernel
theorem d_Mo_changes_118 : decode prog_13_method_17_code 118 = .ok (.putfield 162, 3) := by decide +kernel
theorem d_Mo_changes_121 : decode prog_13_method_17_code 121 = .ok (.aload_n 0, 1) := by decide +kernel
theorem d_Mo_changes_122 : decode prog_13_method_17_code 122 = .ok (.getfield 33, 3) := by decide +kernel
theorem d_Mo_changes_125 : decode prog_13_method_17_code 125 = .ok (.aload_n 0, 1) := by decide +kernel
theorem d_Mo_changes_126 : decode prog_13_method_17_code 126 = .ok (.getfield 162, 3) := by decide +kernel
theorem d_Mo_changes_129 : decode prog_13_method_17_code 129 = .ok (.iload_n 1, 1) := by decide +kernel
theorem d_Mo_changes_130 : decode prog_13_method_17_code 130 = .ok (.iastore, 1) := by decide +kernel
theorem d_Mo_changes_131 : decode prog_13_method_17_code 131 = .ok (.aload_n 0, 1) := by decide +kernel
theorem d_Mo_changes_132 : decode prog_13_method_17_code 132 = .ok (.getfield 36, 3) := by decide +kernel
theorem d_Mo_changes_135 : decode prog_13_method_17_code 135 = .ok (.aload_n 0, 1) := by decide +kernel
theorem d_Mo_changes_136 : decode prog_13_method_17_code 136 = .ok (.getfield 162, 3) := by decide +kernel
theorem d_Mo_changes_139 : decode prog_13_method_17_code 139 = .ok (.iload_n 2, 1) := by decide +kernel
theorem d_Mo_changes_140 : decode prog_13_method_17_code 140 = .ok (.iastore, 1) := by decide +kernel
theorem d_Mo_changes_141 : decode prog_13_method_17_code 141 = .ok (.aload_n 0, 1) := by decide +kernel
theorem d_Mo_changes_142 : decode prog_13_method_17_code 142 = .ok (.getfield 39, 3) := by decide +kernel
theorem d_Mo_changes_145 : decode prog_13_method_17_code 145 = .ok (.aload_n 0, 1) := by decide +kernel
theorem d_Mo_changes_146 : decode prog_13_method_17_code 146 = .ok (.getfield 162, 3) := by decide +kernel
theorem d_Mo_changes_149 : decode prog_13_method_17_code 149 = .ok (.iload 4, 2) := by decide +kernel
theorem d_Mo_changes_151 : decode prog_13_method_17_code 151 = .ok (.iastore, 1) := by decide +kernel
theorem d_Mo_changes_152 : decode prog_13_method_17_code 152 = .ok (.aload_n 0, 1) := by decide +kernel
theorem d_Mo_changes_153 : decode prog_13_method_17_code 153 = .ok (.getfield 42, 3) := by decide +kernel
theorem d_Mo_changes_156 : decode prog_13_method_17_code 156 = .ok (.aload_n 0, 1) := by decide +kernel
theorem d_Mo_changes_157 : decode prog_13_method_17_code 157 = .ok (.getfield 162, 3) := by decide +kernel
theorem d_Mo_changes_160 : decode prog_13_method_17_code 160 = .ok (.iload_n 3, 1) := by decide +kernel
theorem d_Mo_changes_161 : decode prog_13_method_17_code 161 = .ok (.iastore, 1) := by decide +kernel
theorem d_Mo_changes_162 : decode prog_13_method_17_code 162 = .ok (.aload_n 0, 1) := by decide +kernel
theorem d_Mo_changes_163 : decode prog_13_method_17_code 163 = .ok (.dup, 1) := by decide +kernel
theorem d_Mo_changes_164 : decode prog_13_method_17_code 164 = .ok (.getfield 162, 3) := by decide +kernel
theorem d_Mo_changes_167 : decode prog_13_method_17_code 167 = .ok (.iconst 1, 1) := by decide +kernel
theorem d_Mo_changes_168 : decode prog_13_method_17_code 168 = .ok (.iadd, 1) := by decide +kernel
theorem d_Mo_changes_169 : decode prog_13_method_17_code 169 = .ok (.putfield 162, 3) := by decide +kernel
theorem d_Mo_changes_172 : decode prog_13_method_17_code 172 = .ok (.aload_n 0, 1) := by decide +kernel
theorem d_Mo_changes_173 : decode prog_13_method_17_code 173 = .ok (.iload_n 1, 1) := by decide +kernel
theorem d_Mo_changes_174 : decode prog_13_method_17_code 174 = .ok (.iload_n 2, 1) := by decide +kernel
theorem d_Mo_changes_175 : decode prog_13_method_17_code 175 = .ok (.iload_n 3, 1) := by decide +kernel
theorem d_Mo_changes_176 : decode prog_13_method_17_code 176 = .ok (.invokevirtual 165, 3) := by decide +kernel
theorem d_Mo_changes_179 : decode prog_13_method_17_code 179 = .ok (.iload 4, 2) := by decide +kernel
theorem d_Mo_changes_181 : decode prog_13_method_17_code 181 = .ok (.ireturn, 1) := by decide +kernel
def f_Mo_changes_L121   (v1 : Int32) (v2 : Int32) (v3 : Int32) (v4 : Int32) (x_o_doneMany : Int32) (x_o_undoneMany : Int32) (x_o_cost : Nat → Int32) (x_o_changeOf : Nat → Int32) (x_o_changeAt : Nat → Int32) (x_o_before : Nat → Int32) (x_o_behind : Nat → Int32) : Option (Int32 × Int32 × Int32 × (Nat → Int32) × (Nat → Int32) × (Nat → Int32) × (Nat → Int32) × (Nat → Int32)) :=
  if x_o_doneMany < 0 ∨ 40 ≤ Int32.toNatClampNeg x_o_doneMany then none else
  if x_o_doneMany < 0 ∨ 40 ≤ Int32.toNatClampNeg x_o_doneMany then none else
  if x_o_doneMany < 0 ∨ 40 ≤ Int32.toNatClampNeg x_o_doneMany then none else
  if x_o_doneMany < 0 ∨ 40 ≤ Int32.toNatClampNeg x_o_doneMany then none else
  (f_Mo_lays  v1 v2 v3 x_o_cost).bind fun u1 =>
  some (v4, (x_o_doneMany + (1 : Int32)), x_o_undoneMany, u1, (upd x_o_changeOf (Int32.toNatClampNeg x_o_doneMany) v1), (upd x_o_changeAt (Int32.toNatClampNeg x_o_doneMany) v2), (upd x_o_before (Int32.toNatClampNeg x_o_doneMany) v4), (upd x_o_behind (Int32.toNatClampNeg x_o_doneMany) v3))
set_option maxRecDepth 20000 in
theorem w_Mo_changes_L121 {p : Program} {l : Launch} {e : Env} {s : State} {m : MethodId} {args : Array Value} {below : List Frame} {meth : Method} {c : Code} {D : va_G} {dA : Nat → ClassId} {A : Nat → Prop} (C : GC p s m args meth c prog_13_method_17_code 6 "OneLampModel" (some .int) D dA A) {a_o a_o_had a_o_told a_o_barred a_o_cost a_o_last a_o_often a_o_changeOf a_o_changeAt a_o_before a_o_behind a_o_tape a_o_act a_o_with a_o_lineMany a_o_testEnd a_o_lineEnd a_o_facts a_o_pile a_o_way a_o_bestWay a_o_wasHad a_o_wasLast a_o_keptHad a_o_keptTold a_o_keptLast a_o_keptOften a_o_kind a_o_traced a_o_holds a_o_size a_o_elements a_o_shifted : Nat} {x_o_code : Int32} {x_o_lamps : Int32} {x_o_at : Int32} {x_o_night : Int32} {x_o_spent : Int32} {x_o_rest : Int32} {x_o_shy : Int32} {x_o_hasBegun : Bool} {x_o_taped : Int32} {x_o_here : Int32} {x_o_fault : Int32} {x_o_open : Int32} {x_o_laid : Int32} {x_o_hasLaw : Bool} {x_o_bestMany : Int32} {x_o_wasAt : Int32} {x_o_wasNight : Int32} {x_o_hasImage : Bool} {x_o_keptLamps : Int32} {x_o_keptAt : Int32} {x_o_keptNight : Int32} {x_o_keptSpent : Int32} {x_o_bodies : Int32} {x_o_traces : Int32} {r0 : Int32} {o_x_o_doneMany : Int32} {o_x_o_undoneMany : Int32} {o_x_o_cost : Nat → Int32} {o_x_o_changeOf : Nat → Int32} {o_x_o_changeAt : Nat → Int32} {o_x_o_before : Nat → Int32} {o_x_o_behind : Nat → Int32}    (v1 : Int32) (v2 : Int32) (v3 : Int32) (v4 : Int32) (x_o_doneMany : Int32) (x_o_undoneMany : Int32) (x_o_cost : Nat → Int32) (x_o_changeOf : Nat → Int32) (x_o_changeAt : Nat → Int32) (x_o_before : Nat → Int32) (x_o_behind : Nat → Int32) (hf : f_Mo_changes_L121   v1 v2 v3 v4 x_o_doneMany x_o_undoneMany x_o_cost x_o_changeOf x_o_changeAt x_o_before x_o_behind = some (r0, o_x_o_doneMany, o_x_o_undoneMany, o_x_o_cost, o_x_o_changeOf, o_x_o_changeAt, o_x_o_before, o_x_o_behind)) : GG p l e { frames := 1, cells := 0, slots := 0, locals := 23 } s m args below meth c 6 D A 0 0 (MQ below (cQ D A (some (.int r0)) (fun _ : Unit => [O_Mo a_o x_o_code x_o_lamps x_o_at x_o_night x_o_spent x_o_rest x_o_shy a_o_had a_o_told a_o_barred a_o_cost a_o_last a_o_often x_o_hasBegun o_x_o_doneMany o_x_o_undoneMany a_o_changeOf a_o_changeAt a_o_before a_o_behind a_o_tape x_o_taped x_o_here x_o_fault x_o_open x_o_laid a_o_act a_o_with a_o_lineMany a_o_testEnd a_o_lineEnd a_o_facts a_o_pile x_o_hasLaw a_o_way a_o_bestWay x_o_bestMany a_o_wasHad a_o_wasLast x_o_wasAt x_o_wasNight x_o_hasImage x_o_keptLamps x_o_keptAt x_o_keptNight x_o_keptSpent a_o_keptHad a_o_keptTold a_o_keptLast a_o_keptOften x_o_bodies a_o_kind x_o_traces a_o_traced a_o_holds a_o_size a_o_elements a_o_shifted, A_I dA a_o_cost 10 o_x_o_cost, A_I dA a_o_changeOf 40 o_x_o_changeOf, A_I dA a_o_changeAt 40 o_x_o_changeAt, A_I dA a_o_before 40 o_x_o_before, A_I dA a_o_behind 40 o_x_o_behind])) args s 0 0 A) 121 [(0, .ref a_o), (1, .int v1), (2, .int v2), (3, .int v3), (4, .int v4)] [] [O_Mo a_o x_o_code x_o_lamps x_o_at x_o_night x_o_spent x_o_rest x_o_shy a_o_had a_o_told a_o_barred a_o_cost a_o_last a_o_often x_o_hasBegun x_o_doneMany x_o_undoneMany a_o_changeOf a_o_changeAt a_o_before a_o_behind a_o_tape x_o_taped x_o_here x_o_fault x_o_open x_o_laid a_o_act a_o_with a_o_lineMany a_o_testEnd a_o_lineEnd a_o_facts a_o_pile x_o_hasLaw a_o_way a_o_bestWay x_o_bestMany a_o_wasHad a_o_wasLast x_o_wasAt x_o_wasNight x_o_hasImage x_o_keptLamps x_o_keptAt x_o_keptNight x_o_keptSpent a_o_keptHad a_o_keptTold a_o_keptLast a_o_keptOften x_o_bodies a_o_kind x_o_traces a_o_traced a_o_holds a_o_size a_o_elements a_o_shifted, A_I dA a_o_cost 10 x_o_cost, A_I dA a_o_changeOf 40 x_o_changeOf, A_I dA a_o_changeAt 40 x_o_changeAt, A_I dA a_o_before 40 x_o_before, A_I dA a_o_behind 40 x_o_behind] := by
  unfold f_Mo_changes_L121 at hf
  refine g_aload_n (pc' := 122) C 0 d_Mo_changes_121 rfl rfl ?_
  refine g_get (pc' := 125) C kf_Mo 16 mw_4_154 d_Mo_changes_122 rfl 0 rfl (by decide) rfl ?_
  refine g_aload_n (pc' := 126) C 0 d_Mo_changes_125 rfl rfl ?_
  refine g_get (pc' := 129) C kf_Mo 14 mw_4_152 d_Mo_changes_126 rfl 0 rfl (by decide) rfl ?_
  refine g_iload_n (pc' := 130) C 1 d_Mo_changes_129 rfl rfl ?_
  have hb := g_ck hf
  replace hf := g_in hb hf
  refine g_iast (pc' := 131) (ws' := [O_Mo a_o x_o_code x_o_lamps x_o_at x_o_night x_o_spent x_o_rest x_o_shy a_o_had a_o_told a_o_barred a_o_cost a_o_last a_o_often x_o_hasBegun x_o_doneMany x_o_undoneMany a_o_changeOf a_o_changeAt a_o_before a_o_behind a_o_tape x_o_taped x_o_here x_o_fault x_o_open x_o_laid a_o_act a_o_with a_o_lineMany a_o_testEnd a_o_lineEnd a_o_facts a_o_pile x_o_hasLaw a_o_way a_o_bestWay x_o_bestMany a_o_wasHad a_o_wasLast x_o_wasAt x_o_wasNight x_o_hasImage x_o_keptLamps x_o_keptAt x_o_keptNight x_o_keptSpent a_o_keptHad a_o_keptTold a_o_keptLast a_o_keptOften x_o_bodies a_o_kind x_o_traces a_o_traced a_o_holds a_o_size a_o_elements a_o_shifted, A_I dA a_o_cost 10 x_o_cost, A_I dA a_o_changeOf 40 (upd x_o_changeOf (Int32.toNatClampNeg x_o_doneMany) v1), A_I dA a_o_changeAt 40 x_o_changeAt, A_I dA a_o_before 40 x_o_before, A_I dA a_o_behind 40 x_o_behind]) C d_Mo_changes_130 rfl 2 rfl hb rfl ?_
  refine g_aload_n (pc' := 132) C 0 d_Mo_changes_131 rfl rfl ?_
  refine g_get (pc' := 135) C kf_Mo 17 mw_4_155 d_Mo_changes_132 rfl 0 rfl (by decide) rfl ?_
  refine g_aload_n (pc' := 136) C 0 d_Mo_changes_135 rfl rfl ?_
  refine g_get (pc' := 139) C kf_Mo 14 mw_4_152 d_Mo_changes_136 rfl 0 rfl (by decide) rfl ?_
  refine g_iload_n (pc' := 140) C 2 d_Mo_changes_139 rfl rfl ?_
  have hb := g_ck hf
  replace hf := g_in hb hf
  refine g_iast (pc' := 141) (ws' := [O_Mo a_o x_o_code x_o_lamps x_o_at x_o_night x_o_spent x_o_rest x_o_shy a_o_had a_o_told a_o_barred a_o_cost a_o_last a_o_often x_o_hasBegun x_o_doneMany x_o_undoneMany a_o_changeOf a_o_changeAt a_o_before a_o_behind a_o_tape x_o_taped x_o_here x_o_fault x_o_open x_o_laid a_o_act a_o_with a_o_lineMany a_o_testEnd a_o_lineEnd a_o_facts a_o_pile x_o_hasLaw a_o_way a_o_bestWay x_o_bestMany a_o_wasHad a_o_wasLast x_o_wasAt x_o_wasNight x_o_hasImage x_o_keptLamps x_o_keptAt x_o_keptNight x_o_keptSpent a_o_keptHad a_o_keptTold a_o_keptLast a_o_keptOften x_o_bodies a_o_kind x_o_traces a_o_traced a_o_holds a_o_size a_o_elements a_o_shifted, A_I dA a_o_cost 10 x_o_cost, A_I dA a_o_changeOf 40 (upd x_o_changeOf (Int32.toNatClampNeg x_o_doneMany) v1), A_I dA a_o_changeAt 40 (upd x_o_changeAt (Int32.toNatClampNeg x_o_doneMany) v2), A_I dA a_o_before 40 x_o_before, A_I dA a_o_behind 40 x_o_behind]) C d_Mo_changes_140 rfl 3 rfl hb rfl ?_
  refine g_aload_n (pc' := 142) C 0 d_Mo_changes_141 rfl rfl ?_
  refine g_get (pc' := 145) C kf_Mo 18 mw_4_156 d_Mo_changes_142 rfl 0 rfl (by decide) rfl ?_
  refine g_aload_n (pc' := 146) C 0 d_Mo_changes_145 rfl rfl ?_
  refine g_get (pc' := 149) C kf_Mo 14 mw_4_152 d_Mo_changes_146 rfl 0 rfl (by decide) rfl ?_
  refine g_iload (pc' := 151) C 4 d_Mo_changes_149 rfl rfl ?_
  have hb := g_ck hf
  replace hf := g_in hb hf
  refine g_iast (pc' := 152) (ws' := [O_Mo a_o x_o_code x_o_lamps x_o_at x_o_night x_o_spent x_o_rest x_o_shy a_o_had a_o_told a_o_barred a_o_cost a_o_last a_o_often x_o_hasBegun x_o_doneMany x_o_undoneMany a_o_changeOf a_o_changeAt a_o_before a_o_behind a_o_tape x_o_taped x_o_here x_o_fault x_o_open x_o_laid a_o_act a_o_with a_o_lineMany a_o_testEnd a_o_lineEnd a_o_facts a_o_pile x_o_hasLaw a_o_way a_o_bestWay x_o_bestMany a_o_wasHad a_o_wasLast x_o_wasAt x_o_wasNight x_o_hasImage x_o_keptLamps x_o_keptAt x_o_keptNight x_o_keptSpent a_o_keptHad a_o_keptTold a_o_keptLast a_o_keptOften x_o_bodies a_o_kind x_o_traces a_o_traced a_o_holds a_o_size a_o_elements a_o_shifted, A_I dA a_o_cost 10 x_o_cost, A_I dA a_o_changeOf 40 (upd x_o_changeOf (Int32.toNatClampNeg x_o_doneMany) v1), A_I dA a_o_changeAt 40 (upd x_o_changeAt (Int32.toNatClampNeg x_o_doneMany) v2), A_I dA a_o_before 40 (upd x_o_before (Int32.toNatClampNeg x_o_doneMany) v4), A_I dA a_o_behind 40 x_o_behind]) C d_Mo_changes_151 rfl 4 rfl hb rfl ?_
  refine g_aload_n (pc' := 153) C 0 d_Mo_changes_152 rfl rfl ?_
  refine g_get (pc' := 156) C kf_Mo 19 mw_4_157 d_Mo_changes_153 rfl 0 rfl (by decide) rfl ?_
  refine g_aload_n (pc' := 157) C 0 d_Mo_changes_156 rfl rfl ?_
  refine g_get (pc' := 160) C kf_Mo 14 mw_4_152 d_Mo_changes_157 rfl 0 rfl (by decide) rfl ?_
  refine g_iload_n (pc' := 161) C 3 d_Mo_changes_160 rfl rfl ?_
  have hb := g_ck hf
  replace hf := g_in hb hf
  refine g_iast (pc' := 162) (ws' := [O_Mo a_o x_o_code x_o_lamps x_o_at x_o_night x_o_spent x_o_rest x_o_shy a_o_had a_o_told a_o_barred a_o_cost a_o_last a_o_often x_o_hasBegun x_o_doneMany x_o_undoneMany a_o_changeOf a_o_changeAt a_o_before a_o_behind a_o_tape x_o_taped x_o_here x_o_fault x_o_open x_o_laid a_o_act a_o_with a_o_lineMany a_o_testEnd a_o_lineEnd a_o_facts a_o_pile x_o_hasLaw a_o_way a_o_bestWay x_o_bestMany a_o_wasHad a_o_wasLast x_o_wasAt x_o_wasNight x_o_hasImage x_o_keptLamps x_o_keptAt x_o_keptNight x_o_keptSpent a_o_keptHad a_o_keptTold a_o_keptLast a_o_keptOften x_o_bodies a_o_kind x_o_traces a_o_traced a_o_holds a_o_size a_o_elements a_o_shifted, A_I dA a_o_cost 10 x_o_cost, A_I dA a_o_changeOf 40 (upd x_o_changeOf (Int32.toNatClampNeg x_o_doneMany) v1), A_I dA a_o_changeAt 40 (upd x_o_changeAt (Int32.toNatClampNeg x_o_doneMany) v2), A_I dA a_o_before 40 (upd x_o_before (Int32.toNatClampNeg x_o_doneMany) v4), A_I dA a_o_behind 40 (upd x_o_behind (Int32.toNatClampNeg x_o_doneMany) v3)]) C d_Mo_changes_161 rfl 5 rfl hb rfl ?_
  refine g_aload_n (pc' := 163) C 0 d_Mo_changes_162 rfl rfl ?_
  refine g_dup (pc' := 164) C d_Mo_changes_163 rfl rfl ?_
  refine g_get (pc' := 167) C kf_Mo 14 mw_4_152 d_Mo_changes_164 rfl 0 rfl (by decide) rfl ?_
  refine g_iconst (pc' := 168) (v := 1) C d_Mo_changes_167 rfl rfl ?_
  refine g_iadd (pc' := 169) C d_Mo_changes_168 rfl ?_
  refine g_put (pc' := 172) (ws' := [O_Mo a_o x_o_code x_o_lamps x_o_at x_o_night x_o_spent x_o_rest x_o_shy a_o_had a_o_told a_o_barred a_o_cost a_o_last a_o_often x_o_hasBegun (x_o_doneMany + (1 : Int32)) x_o_undoneMany a_o_changeOf a_o_changeAt a_o_before a_o_behind a_o_tape x_o_taped x_o_here x_o_fault x_o_open x_o_laid a_o_act a_o_with a_o_lineMany a_o_testEnd a_o_lineEnd a_o_facts a_o_pile x_o_hasLaw a_o_way a_o_bestWay x_o_bestMany a_o_wasHad a_o_wasLast x_o_wasAt x_o_wasNight x_o_hasImage x_o_keptLamps x_o_keptAt x_o_keptNight x_o_keptSpent a_o_keptHad a_o_keptTold a_o_keptLast a_o_keptOften x_o_bodies a_o_kind x_o_traces a_o_traced a_o_holds a_o_size a_o_elements a_o_shifted, A_I dA a_o_cost 10 x_o_cost, A_I dA a_o_changeOf 40 (upd x_o_changeOf (Int32.toNatClampNeg x_o_doneMany) v1), A_I dA a_o_changeAt 40 (upd x_o_changeAt (Int32.toNatClampNeg x_o_doneMany) v2), A_I dA a_o_before 40 (upd x_o_before (Int32.toNatClampNeg x_o_doneMany) v4), A_I dA a_o_behind 40 (upd x_o_behind (Int32.toNatClampNeg x_o_doneMany) v3)]) C kf_Mo 14 mw_4_152 d_Mo_changes_169 rfl 0 rfl (by decide) rfl rfl rfl (Nat.le_of_ble_eq_true rfl) rfl ?_
  refine g_aload_n (pc' := 173) C 0 d_Mo_changes_172 rfl rfl ?_
  refine g_iload_n (pc' := 174) C 1 d_Mo_changes_173 rfl rfl ?_
  refine g_iload_n (pc' := 175) C 2 d_Mo_changes_174 rfl rfl ?_
  refine g_iload_n (pc' := 176) C 3 d_Mo_changes_175 rfl rfl ?_
  replace hf := g_bi hf; obtain ⟨u1, hc2, hf⟩ := hf
  refine g_callV (pc' := 179) (st1 := []) (ws1 := [O_Mo a_o x_o_code x_o_lamps x_o_at x_o_night x_o_spent x_o_rest x_o_shy a_o_had a_o_told a_o_barred a_o_cost a_o_last a_o_often x_o_hasBegun (x_o_doneMany + (1 : Int32)) x_o_undoneMany a_o_changeOf a_o_changeAt a_o_before a_o_behind a_o_tape x_o_taped x_o_here x_o_fault x_o_open x_o_laid a_o_act a_o_with a_o_lineMany a_o_testEnd a_o_lineEnd a_o_facts a_o_pile x_o_hasLaw a_o_way a_o_bestWay x_o_bestMany a_o_wasHad a_o_wasLast x_o_wasAt x_o_wasNight x_o_hasImage x_o_keptLamps x_o_keptAt x_o_keptNight x_o_keptSpent a_o_keptHad a_o_keptTold a_o_keptLast a_o_keptOften x_o_bodies a_o_kind x_o_traces a_o_traced a_o_holds a_o_size a_o_elements a_o_shifted, A_I dA a_o_cost 10 u1, A_I dA a_o_changeOf 40 (upd x_o_changeOf (Int32.toNatClampNeg x_o_doneMany) v1), A_I dA a_o_changeAt 40 (upd x_o_changeAt (Int32.toNatClampNeg x_o_doneMany) v2), A_I dA a_o_before 40 (upd x_o_before (Int32.toNatClampNeg x_o_doneMany) v4), A_I dA a_o_behind 40 (upd x_o_behind (Int32.toNatClampNeg x_o_doneMany) v3)]) C (c_Mo_lays (l := l) (D := D) (dA := dA) (a_o := a_o) (a_o_had := a_o_had) (a_o_told := a_o_told) (a_o_barred := a_o_barred) (a_o_cost := a_o_cost) (a_o_last := a_o_last) (a_o_often := a_o_often) (a_o_changeOf := a_o_changeOf) (a_o_changeAt := a_o_changeAt) (a_o_before := a_o_before) (a_o_behind := a_o_behind) (a_o_tape := a_o_tape) (a_o_act := a_o_act) (a_o_with := a_o_with) (a_o_lineMany := a_o_lineMany) (a_o_testEnd := a_o_testEnd) (a_o_lineEnd := a_o_lineEnd) (a_o_facts := a_o_facts) (a_o_pile := a_o_pile) (a_o_way := a_o_way) (a_o_bestWay := a_o_bestWay) (a_o_wasHad := a_o_wasHad) (a_o_wasLast := a_o_wasLast) (a_o_keptHad := a_o_keptHad) (a_o_keptTold := a_o_keptTold) (a_o_keptLast := a_o_keptLast) (a_o_keptOften := a_o_keptOften) (a_o_kind := a_o_kind) (a_o_traced := a_o_traced) (a_o_holds := a_o_holds) (a_o_size := a_o_size) (a_o_elements := a_o_elements) (a_o_shifted := a_o_shifted) (x_o_code := x_o_code) (x_o_lamps := x_o_lamps) (x_o_at := x_o_at) (x_o_night := x_o_night) (x_o_spent := x_o_spent) (x_o_rest := x_o_rest) (x_o_shy := x_o_shy) (x_o_hasBegun := x_o_hasBegun) (x_o_doneMany := (x_o_doneMany + (1 : Int32))) (x_o_undoneMany := x_o_undoneMany) (x_o_taped := x_o_taped) (x_o_here := x_o_here) (x_o_fault := x_o_fault) (x_o_open := x_o_open) (x_o_laid := x_o_laid) (x_o_hasLaw := x_o_hasLaw) (x_o_bestMany := x_o_bestMany) (x_o_wasAt := x_o_wasAt) (x_o_wasNight := x_o_wasNight) (x_o_hasImage := x_o_hasImage) (x_o_keptLamps := x_o_keptLamps) (x_o_keptAt := x_o_keptAt) (x_o_keptNight := x_o_keptNight) (x_o_keptSpent := x_o_keptSpent) (x_o_bodies := x_o_bodies) (x_o_traces := x_o_traces)   hc2) yy_Mo_lays kf_Mo rfl mw_5_118 d_Mo_changes_176 rfl [] rfl rfl (Nat.le_of_ble_eq_true rfl) ⟨Nat.le_of_ble_eq_true rfl, Nat.le_of_ble_eq_true rfl⟩ rfl rfl (Nat.zero_le _) (Nat.zero_le _) 0 rfl [0, 1] rfl (by decide +kernel) rfl (g_lay_sel _ _ _ _ [(0, true), (1, true), (2, false), (3, false), (4, false), (5, false)] (by decide +kernel) rfl (by decide +kernel) rfl rfl) rfl ?_
  refine g_iload (pc' := 181) C 4 d_Mo_changes_179 rfl rfl ?_
  replace hf := g_o2 hf; obtain ⟨h1, hf⟩ := hf; subst h1
  replace hf := g_o2 hf; obtain ⟨h1, hf⟩ := hf; subst h1
  replace hf := g_o2 hf; obtain ⟨h1, hf⟩ := hf; subst h1
  replace hf := g_o2 hf; obtain ⟨h1, hf⟩ := hf; subst h1
  replace hf := g_o2 hf; obtain ⟨h1, hf⟩ := hf; subst h1
  replace hf := g_o2 hf; obtain ⟨h1, hf⟩ := hf; subst h1
  replace hf := g_o2 hf; obtain ⟨h1, hf⟩ := hf; subst h1
  replace hf := Option.some.inj hf; subst hf
  exact g_iret C d_Mo_changes_181 () rfl
def f_Mo_changes_L34   : Nat → Int32 → Int32 → Int32 → Int32 → Int32 → Int32 → Int32 → (Nat → Int32) → (Nat → Int32) → (Nat → Int32) → (Nat → Int32) → (Nat → Int32) → Option (Int32 × Int32 × Int32 × (Nat → Int32) × (Nat → Int32) × (Nat → Int32) × (Nat → Int32) × (Nat → Int32))
  | 0, _, _, _, _, _, _, _, _, _, _, _, _ => none
  | n + 1, v1, v2, v3, v4, v5, x_o_doneMany, x_o_undoneMany, x_o_cost, x_o_changeOf, x_o_changeAt, x_o_before, x_o_behind =>
    if (40 : Int32) ≤ v5 then
      (f_Mo_changes_L121  v1 v2 v3 v4 (x_o_doneMany - (1 : Int32)) x_o_undoneMany x_o_cost x_o_changeOf x_o_changeAt x_o_before x_o_behind)
    else
      (if v5 < 0 ∨ 40 ≤ Int32.toNatClampNeg v5 then none else
      if (v5 - (1 : Int32)) < 0 ∨ 40 ≤ Int32.toNatClampNeg (v5 - (1 : Int32)) then none else
      if v5 < 0 ∨ 40 ≤ Int32.toNatClampNeg v5 then none else
      if (v5 - (1 : Int32)) < 0 ∨ 40 ≤ Int32.toNatClampNeg (v5 - (1 : Int32)) then none else
      if v5 < 0 ∨ 40 ≤ Int32.toNatClampNeg v5 then none else
      if (v5 - (1 : Int32)) < 0 ∨ 40 ≤ Int32.toNatClampNeg (v5 - (1 : Int32)) then none else
      if v5 < 0 ∨ 40 ≤ Int32.toNatClampNeg v5 then none else
      if (v5 - (1 : Int32)) < 0 ∨ 40 ≤ Int32.toNatClampNeg (v5 - (1 : Int32)) then none else
      f_Mo_changes_L34  n v1 v2 v3 v4 (v5 + 1) x_o_doneMany x_o_undoneMany x_o_cost (upd x_o_changeOf (Int32.toNatClampNeg (v5 - (1 : Int32))) (x_o_changeOf (Int32.toNatClampNeg v5))) (upd x_o_changeAt (Int32.toNatClampNeg (v5 - (1 : Int32))) (x_o_changeAt (Int32.toNatClampNeg v5))) (upd x_o_before (Int32.toNatClampNeg (v5 - (1 : Int32))) (x_o_before (Int32.toNatClampNeg v5))) (upd x_o_behind (Int32.toNatClampNeg (v5 - (1 : Int32))) (x_o_behind (Int32.toNatClampNeg v5))))
set_option maxRecDepth 20000 in
theorem w_Mo_changes_L34 {p : Program} {l : Launch} {e : Env} {s : State} {m : MethodId} {args : Array Value} {below : List Frame} {meth : Method} {c : Code} {D : va_G} {dA : Nat → ClassId} {A : Nat → Prop} (C : GC p s m args meth c prog_13_method_17_code 6 "OneLampModel" (some .int) D dA A) {a_o a_o_had a_o_told a_o_barred a_o_cost a_o_last a_o_often a_o_changeOf a_o_changeAt a_o_before a_o_behind a_o_tape a_o_act a_o_with a_o_lineMany a_o_testEnd a_o_lineEnd a_o_facts a_o_pile a_o_way a_o_bestWay a_o_wasHad a_o_wasLast a_o_keptHad a_o_keptTold a_o_keptLast a_o_keptOften a_o_kind a_o_traced a_o_holds a_o_size a_o_elements a_o_shifted : Nat} {x_o_code : Int32} {x_o_lamps : Int32} {x_o_at : Int32} {x_o_night : Int32} {x_o_spent : Int32} {x_o_rest : Int32} {x_o_shy : Int32} {x_o_hasBegun : Bool} {x_o_taped : Int32} {x_o_here : Int32} {x_o_fault : Int32} {x_o_open : Int32} {x_o_laid : Int32} {x_o_hasLaw : Bool} {x_o_bestMany : Int32} {x_o_wasAt : Int32} {x_o_wasNight : Int32} {x_o_hasImage : Bool} {x_o_keptLamps : Int32} {x_o_keptAt : Int32} {x_o_keptNight : Int32} {x_o_keptSpent : Int32} {x_o_bodies : Int32} {x_o_traces : Int32} {r0 : Int32} {o_x_o_doneMany : Int32} {o_x_o_undoneMany : Int32} {o_x_o_cost : Nat → Int32} {o_x_o_changeOf : Nat → Int32} {o_x_o_changeAt : Nat → Int32} {o_x_o_before : Nat → Int32} {o_x_o_behind : Nat → Int32}    : ∀ (n : Nat) (v1 : Int32) (v2 : Int32) (v3 : Int32) (v4 : Int32) (v5 : Int32) (x_o_doneMany : Int32) (x_o_undoneMany : Int32) (x_o_cost : Nat → Int32) (x_o_changeOf : Nat → Int32) (x_o_changeAt : Nat → Int32) (x_o_before : Nat → Int32) (x_o_behind : Nat → Int32), f_Mo_changes_L34   n v1 v2 v3 v4 v5 x_o_doneMany x_o_undoneMany x_o_cost x_o_changeOf x_o_changeAt x_o_before x_o_behind = some (r0, o_x_o_doneMany, o_x_o_undoneMany, o_x_o_cost, o_x_o_changeOf, o_x_o_changeAt, o_x_o_before, o_x_o_behind) → GG p l e { frames := 1, cells := 0, slots := 0, locals := 23 } s m args below meth c 6 D A 0 0 (MQ below (cQ D A (some (.int r0)) (fun _ : Unit => [O_Mo a_o x_o_code x_o_lamps x_o_at x_o_night x_o_spent x_o_rest x_o_shy a_o_had a_o_told a_o_barred a_o_cost a_o_last a_o_often x_o_hasBegun o_x_o_doneMany o_x_o_undoneMany a_o_changeOf a_o_changeAt a_o_before a_o_behind a_o_tape x_o_taped x_o_here x_o_fault x_o_open x_o_laid a_o_act a_o_with a_o_lineMany a_o_testEnd a_o_lineEnd a_o_facts a_o_pile x_o_hasLaw a_o_way a_o_bestWay x_o_bestMany a_o_wasHad a_o_wasLast x_o_wasAt x_o_wasNight x_o_hasImage x_o_keptLamps x_o_keptAt x_o_keptNight x_o_keptSpent a_o_keptHad a_o_keptTold a_o_keptLast a_o_keptOften x_o_bodies a_o_kind x_o_traces a_o_traced a_o_holds a_o_size a_o_elements a_o_shifted, A_I dA a_o_cost 10 o_x_o_cost, A_I dA a_o_changeOf 40 o_x_o_changeOf, A_I dA a_o_changeAt 40 o_x_o_changeAt, A_I dA a_o_before 40 o_x_o_before, A_I dA a_o_behind 40 o_x_o_behind])) args s 0 0 A) 34 [(0, .ref a_o), (1, .int v1), (2, .int v2), (3, .int v3), (4, .int v4), (5, .int v5)] [] [O_Mo a_o x_o_code x_o_lamps x_o_at x_o_night x_o_spent x_o_rest x_o_shy a_o_had a_o_told a_o_barred a_o_cost a_o_last a_o_often x_o_hasBegun x_o_doneMany x_o_undoneMany a_o_changeOf a_o_changeAt a_o_before a_o_behind a_o_tape x_o_taped x_o_here x_o_fault x_o_open x_o_laid a_o_act a_o_with a_o_lineMany a_o_testEnd a_o_lineEnd a_o_facts a_o_pile x_o_hasLaw a_o_way a_o_bestWay x_o_bestMany a_o_wasHad a_o_wasLast x_o_wasAt x_o_wasNight x_o_hasImage x_o_keptLamps x_o_keptAt x_o_keptNight x_o_keptSpent a_o_keptHad a_o_keptTold a_o_keptLast a_o_keptOften x_o_bodies a_o_kind x_o_traces a_o_traced a_o_holds a_o_size a_o_elements a_o_shifted, A_I dA a_o_cost 10 x_o_cost, A_I dA a_o_changeOf 40 x_o_changeOf, A_I dA a_o_changeAt 40 x_o_changeAt, A_I dA a_o_before 40 x_o_before, A_I dA a_o_behind 40 x_o_behind] := by
  intro n
  induction n with
  | zero =>
    intro v1 v2 v3 v4 v5 x_o_doneMany x_o_undoneMany x_o_cost x_o_changeOf x_o_changeAt x_o_before x_o_behind hf
    cases hf
  | succ n ih =>
    intro v1 v2 v3 v4 v5 x_o_doneMany x_o_undoneMany x_o_cost x_o_changeOf x_o_changeAt x_o_before x_o_behind hf
    unfold f_Mo_changes_L34 at hf
    refine g_iload (pc' := 36) C 5 d_Mo_changes_34 rfl rfl ?_
    refine g_bipush (pc' := 38) (v := 40) C d_Mo_changes_36 rfl rfl ?_
    refine g_icmp_ge (pc' := 41) (tgt := 111) C d_Mo_changes_38 rfl rfl (fun h => ?_) (fun h => ?_)
    · replace hf := g_ip h hf
      refine g_aload_n (pc' := 112) C 0 d_Mo_changes_111 rfl rfl ?_
      refine g_dup (pc' := 113) C d_Mo_changes_112 rfl rfl ?_
      refine g_get (pc' := 116) C kf_Mo 14 mw_4_152 d_Mo_changes_113 rfl 0 rfl (by decide) rfl ?_
      refine g_iconst (pc' := 117) (v := 1) C d_Mo_changes_116 rfl rfl ?_
      refine g_isub (pc' := 118) C d_Mo_changes_117 rfl ?_
      refine g_put (pc' := 121) (ws' := [O_Mo a_o x_o_code x_o_lamps x_o_at x_o_night x_o_spent x_o_rest x_o_shy a_o_had a_o_told a_o_barred a_o_cost a_o_last a_o_often x_o_hasBegun (x_o_doneMany - (1 : Int32)) x_o_undoneMany a_o_changeOf a_o_changeAt a_o_before a_o_behind a_o_tape x_o_taped x_o_here x_o_fault x_o_open x_o_laid a_o_act a_o_with a_o_lineMany a_o_testEnd a_o_lineEnd a_o_facts a_o_pile x_o_hasLaw a_o_way a_o_bestWay x_o_bestMany a_o_wasHad a_o_wasLast x_o_wasAt x_o_wasNight x_o_hasImage x_o_keptLamps x_o_keptAt x_o_keptNight x_o_keptSpent a_o_keptHad a_o_keptTold a_o_keptLast a_o_keptOften x_o_bodies a_o_kind x_o_traces a_o_traced a_o_holds a_o_size a_o_elements a_o_shifted, A_I dA a_o_cost 10 x_o_cost, A_I dA a_o_changeOf 40 x_o_changeOf, A_I dA a_o_changeAt 40 x_o_changeAt, A_I dA a_o_before 40 x_o_before, A_I dA a_o_behind 40 x_o_behind]) C kf_Mo 14 mw_4_152 d_Mo_changes_118 rfl 0 rfl (by decide) rfl rfl rfl (Nat.le_of_ble_eq_true rfl) rfl ?_
      refine g_lv (lv' := [(0, .ref a_o), (1, .int v1), (2, .int v2), (3, .int v3), (4, .int v4)]) [0, 1, 2, 3, 4] rfl ?_
      exact w_Mo_changes_L121 (a_o := a_o) (a_o_had := a_o_had) (a_o_told := a_o_told) (a_o_barred := a_o_barred) (a_o_cost := a_o_cost) (a_o_last := a_o_last) (a_o_often := a_o_often) (a_o_changeOf := a_o_changeOf) (a_o_changeAt := a_o_changeAt) (a_o_before := a_o_before) (a_o_behind := a_o_behind) (a_o_tape := a_o_tape) (a_o_act := a_o_act) (a_o_with := a_o_with) (a_o_lineMany := a_o_lineMany) (a_o_testEnd := a_o_testEnd) (a_o_lineEnd := a_o_lineEnd) (a_o_facts := a_o_facts) (a_o_pile := a_o_pile) (a_o_way := a_o_way) (a_o_bestWay := a_o_bestWay) (a_o_wasHad := a_o_wasHad) (a_o_wasLast := a_o_wasLast) (a_o_keptHad := a_o_keptHad) (a_o_keptTold := a_o_keptTold) (a_o_keptLast := a_o_keptLast) (a_o_keptOften := a_o_keptOften) (a_o_kind := a_o_kind) (a_o_traced := a_o_traced) (a_o_holds := a_o_holds) (a_o_size := a_o_size) (a_o_elements := a_o_elements) (a_o_shifted := a_o_shifted) C   v1 v2 v3 v4 (x_o_doneMany - (1 : Int32)) x_o_undoneMany x_o_cost x_o_changeOf x_o_changeAt x_o_before x_o_behind hf
    · replace hf := g_in h hf
      refine g_aload_n (pc' := 42) C 0 d_Mo_changes_41 rfl rfl ?_
      refine g_get (pc' := 45) C kf_Mo 16 mw_4_154 d_Mo_changes_42 rfl 0 rfl (by decide) rfl ?_
      refine g_iload (pc' := 47) C 5 d_Mo_changes_45 rfl rfl ?_
      refine g_iconst (pc' := 48) (v := 1) C d_Mo_changes_47 rfl rfl ?_
      refine g_isub (pc' := 49) C d_Mo_changes_48 rfl ?_
      refine g_aload_n (pc' := 50) C 0 d_Mo_changes_49 rfl rfl ?_
      refine g_get (pc' := 53) C kf_Mo 16 mw_4_154 d_Mo_changes_50 rfl 0 rfl (by decide) rfl ?_
      refine g_iload (pc' := 55) C 5 d_Mo_changes_53 rfl rfl ?_
      have hb := g_ck hf
      replace hf := g_in hb hf
      refine g_iald (pc' := 56) C d_Mo_changes_55 rfl 2 rfl hb ?_
      have hb := g_ck hf
      replace hf := g_in hb hf
      refine g_iast (pc' := 57) (ws' := [O_Mo a_o x_o_code x_o_lamps x_o_at x_o_night x_o_spent x_o_rest x_o_shy a_o_had a_o_told a_o_barred a_o_cost a_o_last a_o_often x_o_hasBegun x_o_doneMany x_o_undoneMany a_o_changeOf a_o_changeAt a_o_before a_o_behind a_o_tape x_o_taped x_o_here x_o_fault x_o_open x_o_laid a_o_act a_o_with a_o_lineMany a_o_testEnd a_o_lineEnd a_o_facts a_o_pile x_o_hasLaw a_o_way a_o_bestWay x_o_bestMany a_o_wasHad a_o_wasLast x_o_wasAt x_o_wasNight x_o_hasImage x_o_keptLamps x_o_keptAt x_o_keptNight x_o_keptSpent a_o_keptHad a_o_keptTold a_o_keptLast a_o_keptOften x_o_bodies a_o_kind x_o_traces a_o_traced a_o_holds a_o_size a_o_elements a_o_shifted, A_I dA a_o_cost 10 x_o_cost, A_I dA a_o_changeOf 40 (upd x_o_changeOf (Int32.toNatClampNeg (v5 - (1 : Int32))) (x_o_changeOf (Int32.toNatClampNeg v5))), A_I dA a_o_changeAt 40 x_o_changeAt, A_I dA a_o_before 40 x_o_before, A_I dA a_o_behind 40 x_o_behind]) C d_Mo_changes_56 rfl 2 rfl hb rfl ?_
      refine g_aload_n (pc' := 58) C 0 d_Mo_changes_57 rfl rfl ?_
      refine g_get (pc' := 61) C kf_Mo 17 mw_4_155 d_Mo_changes_58 rfl 0 rfl (by decide) rfl ?_
      refine g_iload (pc' := 63) C 5 d_Mo_changes_61 rfl rfl ?_
      refine g_iconst (pc' := 64) (v := 1) C d_Mo_changes_63 rfl rfl ?_
      refine g_isub (pc' := 65) C d_Mo_changes_64 rfl ?_
      refine g_aload_n (pc' := 66) C 0 d_Mo_changes_65 rfl rfl ?_
      refine g_get (pc' := 69) C kf_Mo 17 mw_4_155 d_Mo_changes_66 rfl 0 rfl (by decide) rfl ?_
      refine g_iload (pc' := 71) C 5 d_Mo_changes_69 rfl rfl ?_
      have hb := g_ck hf
      replace hf := g_in hb hf
      refine g_iald (pc' := 72) C d_Mo_changes_71 rfl 3 rfl hb ?_
      have hb := g_ck hf
      replace hf := g_in hb hf
      refine g_iast (pc' := 73) (ws' := [O_Mo a_o x_o_code x_o_lamps x_o_at x_o_night x_o_spent x_o_rest x_o_shy a_o_had a_o_told a_o_barred a_o_cost a_o_last a_o_often x_o_hasBegun x_o_doneMany x_o_undoneMany a_o_changeOf a_o_changeAt a_o_before a_o_behind a_o_tape x_o_taped x_o_here x_o_fault x_o_open x_o_laid a_o_act a_o_with a_o_lineMany a_o_testEnd a_o_lineEnd a_o_facts a_o_pile x_o_hasLaw a_o_way a_o_bestWay x_o_bestMany a_o_wasHad a_o_wasLast x_o_wasAt x_o_wasNight x_o_hasImage x_o_keptLamps x_o_keptAt x_o_keptNight x_o_keptSpent a_o_keptHad a_o_keptTold a_o_keptLast a_o_keptOften x_o_bodies a_o_kind x_o_traces a_o_traced a_o_holds a_o_size a_o_elements a_o_shifted, A_I dA a_o_cost 10 x_o_cost, A_I dA a_o_changeOf 40 (upd x_o_changeOf (Int32.toNatClampNeg (v5 - (1 : Int32))) (x_o_changeOf (Int32.toNatClampNeg v5))), A_I dA a_o_changeAt 40 (upd x_o_changeAt (Int32.toNatClampNeg (v5 - (1 : Int32))) (x_o_changeAt (Int32.toNatClampNeg v5))), A_I dA a_o_before 40 x_o_before, A_I dA a_o_behind 40 x_o_behind]) C d_Mo_changes_72 rfl 3 rfl hb rfl ?_
      refine g_aload_n (pc' := 74) C 0 d_Mo_changes_73 rfl rfl ?_
      refine g_get (pc' := 77) C kf_Mo 18 mw_4_156 d_Mo_changes_74 rfl 0 rfl (by decide) rfl ?_
      refine g_iload (pc' := 79) C 5 d_Mo_changes_77 rfl rfl ?_
      refine g_iconst (pc' := 80) (v := 1) C d_Mo_changes_79 rfl rfl ?_
      refine g_isub (pc' := 81) C d_Mo_changes_80 rfl ?_
      refine g_aload_n (pc' := 82) C 0 d_Mo_changes_81 rfl rfl ?_
      refine g_get (pc' := 85) C kf_Mo 18 mw_4_156 d_Mo_changes_82 rfl 0 rfl (by decide) rfl ?_
      refine g_iload (pc' := 87) C 5 d_Mo_changes_85 rfl rfl ?_
      have hb := g_ck hf
      replace hf := g_in hb hf
      refine g_iald (pc' := 88) C d_Mo_changes_87 rfl 4 rfl hb ?_
      have hb := g_ck hf
      replace hf := g_in hb hf
      refine g_iast (pc' := 89) (ws' := [O_Mo a_o x_o_code x_o_lamps x_o_at x_o_night x_o_spent x_o_rest x_o_shy a_o_had a_o_told a_o_barred a_o_cost a_o_last a_o_often x_o_hasBegun x_o_doneMany x_o_undoneMany a_o_changeOf a_o_changeAt a_o_before a_o_behind a_o_tape x_o_taped x_o_here x_o_fault x_o_open x_o_laid a_o_act a_o_with a_o_lineMany a_o_testEnd a_o_lineEnd a_o_facts a_o_pile x_o_hasLaw a_o_way a_o_bestWay x_o_bestMany a_o_wasHad a_o_wasLast x_o_wasAt x_o_wasNight x_o_hasImage x_o_keptLamps x_o_keptAt x_o_keptNight x_o_keptSpent a_o_keptHad a_o_keptTold a_o_keptLast a_o_keptOften x_o_bodies a_o_kind x_o_traces a_o_traced a_o_holds a_o_size a_o_elements a_o_shifted, A_I dA a_o_cost 10 x_o_cost, A_I dA a_o_changeOf 40 (upd x_o_changeOf (Int32.toNatClampNeg (v5 - (1 : Int32))) (x_o_changeOf (Int32.toNatClampNeg v5))), A_I dA a_o_changeAt 40 (upd x_o_changeAt (Int32.toNatClampNeg (v5 - (1 : Int32))) (x_o_changeAt (Int32.toNatClampNeg v5))), A_I dA a_o_before 40 (upd x_o_before (Int32.toNatClampNeg (v5 - (1 : Int32))) (x_o_before (Int32.toNatClampNeg v5))), A_I dA a_o_behind 40 x_o_behind]) C d_Mo_changes_88 rfl 4 rfl hb rfl ?_
      refine g_aload_n (pc' := 90) C 0 d_Mo_changes_89 rfl rfl ?_
      refine g_get (pc' := 93) C kf_Mo 19 mw_4_157 d_Mo_changes_90 rfl 0 rfl (by decide) rfl ?_
      refine g_iload (pc' := 95) C 5 d_Mo_changes_93 rfl rfl ?_
      refine g_iconst (pc' := 96) (v := 1) C d_Mo_changes_95 rfl rfl ?_
      refine g_isub (pc' := 97) C d_Mo_changes_96 rfl ?_
      refine g_aload_n (pc' := 98) C 0 d_Mo_changes_97 rfl rfl ?_
      refine g_get (pc' := 101) C kf_Mo 19 mw_4_157 d_Mo_changes_98 rfl 0 rfl (by decide) rfl ?_
      refine g_iload (pc' := 103) C 5 d_Mo_changes_101 rfl rfl ?_
      have hb := g_ck hf
      replace hf := g_in hb hf
      refine g_iald (pc' := 104) C d_Mo_changes_103 rfl 5 rfl hb ?_
      have hb := g_ck hf
      replace hf := g_in hb hf
      refine g_iast (pc' := 105) (ws' := [O_Mo a_o x_o_code x_o_lamps x_o_at x_o_night x_o_spent x_o_rest x_o_shy a_o_had a_o_told a_o_barred a_o_cost a_o_last a_o_often x_o_hasBegun x_o_doneMany x_o_undoneMany a_o_changeOf a_o_changeAt a_o_before a_o_behind a_o_tape x_o_taped x_o_here x_o_fault x_o_open x_o_laid a_o_act a_o_with a_o_lineMany a_o_testEnd a_o_lineEnd a_o_facts a_o_pile x_o_hasLaw a_o_way a_o_bestWay x_o_bestMany a_o_wasHad a_o_wasLast x_o_wasAt x_o_wasNight x_o_hasImage x_o_keptLamps x_o_keptAt x_o_keptNight x_o_keptSpent a_o_keptHad a_o_keptTold a_o_keptLast a_o_keptOften x_o_bodies a_o_kind x_o_traces a_o_traced a_o_holds a_o_size a_o_elements a_o_shifted, A_I dA a_o_cost 10 x_o_cost, A_I dA a_o_changeOf 40 (upd x_o_changeOf (Int32.toNatClampNeg (v5 - (1 : Int32))) (x_o_changeOf (Int32.toNatClampNeg v5))), A_I dA a_o_changeAt 40 (upd x_o_changeAt (Int32.toNatClampNeg (v5 - (1 : Int32))) (x_o_changeAt (Int32.toNatClampNeg v5))), A_I dA a_o_before 40 (upd x_o_before (Int32.toNatClampNeg (v5 - (1 : Int32))) (x_o_before (Int32.toNatClampNeg v5))), A_I dA a_o_behind 40 (upd x_o_behind (Int32.toNatClampNeg (v5 - (1 : Int32))) (x_o_behind (Int32.toNatClampNeg v5)))]) C d_Mo_changes_104 rfl 5 rfl hb rfl ?_
      refine g_iinc (pc' := 108) (j := 5) (v := (v5 + 1)) (lv' := [(5, .int (v5 + 1)), (0, .ref a_o), (1, .int v1), (2, .int v2), (3, .int v3), (4, .int v4)]) C d_Mo_changes_105 rfl rfl rfl (by decide) rfl ?_
      refine g_goto (tgt := 34) C d_Mo_changes_108 rfl ?_
      refine g_lv (lv' := [(0, .ref a_o), (1, .int v1), (2, .int v2), (3, .int v3), (4, .int v4), (5, .int (v5 + 1))]) [1, 2, 3, 4, 5, 0] rfl ?_
      exact ih v1 v2 v3 v4 (v5 + 1) x_o_doneMany x_o_undoneMany x_o_cost (upd x_o_changeOf (Int32.toNatClampNeg (v5 - (1 : Int32))) (x_o_changeOf (Int32.toNatClampNeg v5))) (upd x_o_changeAt (Int32.toNatClampNeg (v5 - (1 : Int32))) (x_o_changeAt (Int32.toNatClampNeg v5))) (upd x_o_before (Int32.toNatClampNeg (v5 - (1 : Int32))) (x_o_before (Int32.toNatClampNeg v5))) (upd x_o_behind (Int32.toNatClampNeg (v5 - (1 : Int32))) (x_o_behind (Int32.toNatClampNeg v5))) hf
def f_Mo_changes  (p1 : Int32) (p2 : Int32) (p3 : Int32) (x_o_doneMany : Int32) (x_o_undoneMany : Int32) (x_o_cost : Nat → Int32) (x_o_changeOf : Nat → Int32) (x_o_changeAt : Nat → Int32) (x_o_before : Nat → Int32) (x_o_behind : Nat → Int32) : Option (Int32 × Int32 × Int32 × (Nat → Int32) × (Nat → Int32) × (Nat → Int32) × (Nat → Int32) × (Nat → Int32)) :=
  (f_Mo_valueAt  p1 p2 x_o_cost).bind fun r3 =>
  if r3 = p3 then
    (some (r3, x_o_doneMany, x_o_undoneMany, x_o_cost, x_o_changeOf, x_o_changeAt, x_o_before, x_o_behind))
  else
    (if x_o_doneMany = (40 : Int32) then
      (f_Mo_changes_L34  3000 p1 p2 p3 r3 (1 : Int32) x_o_doneMany (0 : Int32) x_o_cost x_o_changeOf x_o_changeAt x_o_before x_o_behind)
    else
      (f_Mo_changes_L121  p1 p2 p3 r3 x_o_doneMany (0 : Int32) x_o_cost x_o_changeOf x_o_changeAt x_o_before x_o_behind))
set_option maxRecDepth 20000 in
theorem c_Mo_changes {l : Launch} {D : va_G} {dA : Nat → ClassId} {a_o a_o_had a_o_told a_o_barred a_o_cost a_o_last a_o_often a_o_changeOf a_o_changeAt a_o_before a_o_behind a_o_tape a_o_act a_o_with a_o_lineMany a_o_testEnd a_o_lineEnd a_o_facts a_o_pile a_o_way a_o_bestWay a_o_wasHad a_o_wasLast a_o_keptHad a_o_keptTold a_o_keptLast a_o_keptOften a_o_kind a_o_traced a_o_holds a_o_size a_o_elements a_o_shifted : Nat} {x_o_code : Int32} {x_o_lamps : Int32} {x_o_at : Int32} {x_o_night : Int32} {x_o_spent : Int32} {x_o_rest : Int32} {x_o_shy : Int32} {x_o_hasBegun : Bool} {x_o_taped : Int32} {x_o_here : Int32} {x_o_fault : Int32} {x_o_open : Int32} {x_o_laid : Int32} {x_o_hasLaw : Bool} {x_o_bestMany : Int32} {x_o_wasAt : Int32} {x_o_wasNight : Int32} {x_o_hasImage : Bool} {x_o_keptLamps : Int32} {x_o_keptAt : Int32} {x_o_keptNight : Int32} {x_o_keptSpent : Int32} {x_o_bodies : Int32} {x_o_traces : Int32} {p1 : Int32} {p2 : Int32} {p3 : Int32} {x_o_doneMany : Int32} {x_o_undoneMany : Int32} {x_o_cost : Nat → Int32} {x_o_changeOf : Nat → Int32} {x_o_changeAt : Nat → Int32} {x_o_before : Nat → Int32} {x_o_behind : Nat → Int32} {r0 : Int32} {o_x_o_doneMany : Int32} {o_x_o_undoneMany : Int32} {o_x_o_cost : Nat → Int32} {o_x_o_changeOf : Nat → Int32} {o_x_o_changeAt : Nat → Int32} {o_x_o_before : Nat → Int32} {o_x_o_behind : Nat → Int32}   (hf : f_Mo_changes  p1 p2 p3 x_o_doneMany x_o_undoneMany x_o_cost x_o_changeOf x_o_changeAt x_o_before x_o_behind = some (r0, o_x_o_doneMany, o_x_o_undoneMany, o_x_o_cost, o_x_o_changeOf, o_x_o_changeAt, o_x_o_before, o_x_o_behind)) : CT l y_Mo_changes prog_13_method_17_code 6 (some .int) { frames := 1, cells := 0, slots := 0, locals := 23 } D dA [.ref a_o, .int p1, .int p2, .int p3] [O_Mo a_o x_o_code x_o_lamps x_o_at x_o_night x_o_spent x_o_rest x_o_shy a_o_had a_o_told a_o_barred a_o_cost a_o_last a_o_often x_o_hasBegun x_o_doneMany x_o_undoneMany a_o_changeOf a_o_changeAt a_o_before a_o_behind a_o_tape x_o_taped x_o_here x_o_fault x_o_open x_o_laid a_o_act a_o_with a_o_lineMany a_o_testEnd a_o_lineEnd a_o_facts a_o_pile x_o_hasLaw a_o_way a_o_bestWay x_o_bestMany a_o_wasHad a_o_wasLast x_o_wasAt x_o_wasNight x_o_hasImage x_o_keptLamps x_o_keptAt x_o_keptNight x_o_keptSpent a_o_keptHad a_o_keptTold a_o_keptLast a_o_keptOften x_o_bodies a_o_kind x_o_traces a_o_traced a_o_holds a_o_size a_o_elements a_o_shifted, A_I dA a_o_cost 10 x_o_cost, A_I dA a_o_changeOf 40 x_o_changeOf, A_I dA a_o_changeAt 40 x_o_changeAt, A_I dA a_o_before 40 x_o_before, A_I dA a_o_behind 40 x_o_behind] (some (.int r0)) (fun _ : Unit => [O_Mo a_o x_o_code x_o_lamps x_o_at x_o_night x_o_spent x_o_rest x_o_shy a_o_had a_o_told a_o_barred a_o_cost a_o_last a_o_often x_o_hasBegun o_x_o_doneMany o_x_o_undoneMany a_o_changeOf a_o_changeAt a_o_before a_o_behind a_o_tape x_o_taped x_o_here x_o_fault x_o_open x_o_laid a_o_act a_o_with a_o_lineMany a_o_testEnd a_o_lineEnd a_o_facts a_o_pile x_o_hasLaw a_o_way a_o_bestWay x_o_bestMany a_o_wasHad a_o_wasLast x_o_wasAt x_o_wasNight x_o_hasImage x_o_keptLamps x_o_keptAt x_o_keptNight x_o_keptSpent a_o_keptHad a_o_keptTold a_o_keptLast a_o_keptOften x_o_bodies a_o_kind x_o_traces a_o_traced a_o_holds a_o_size a_o_elements a_o_shifted, A_I dA a_o_cost 10 o_x_o_cost, A_I dA a_o_changeOf 40 o_x_o_changeOf, A_I dA a_o_changeAt 40 o_x_o_changeAt, A_I dA a_o_before 40 o_x_o_before, A_I dA a_o_behind 40 o_x_o_behind]) := by
  refine ct_intro "OneLampModel" rfl (by decide +kernel) (Nat.le_of_ble_eq_true rfl) [(0, .ref a_o), (1, .int p1), (2, .int p2), (3, .int p3)] rfl (fun _ C => ?_)
  unfold f_Mo_changes at hf
  refine g_aload_n (pc' := 1) C 0 d_Mo_changes_0 rfl rfl ?_
  refine g_iload_n (pc' := 2) C 1 d_Mo_changes_1 rfl rfl ?_
  refine g_iload_n (pc' := 3) C 2 d_Mo_changes_2 rfl rfl ?_
  replace hf := g_bi hf; obtain ⟨r3, hc4, hf⟩ := hf
  refine g_callV (pc' := 6) (st1 := [.int r3]) (ws1 := [O_Mo a_o x_o_code x_o_lamps x_o_at x_o_night x_o_spent x_o_rest x_o_shy a_o_had a_o_told a_o_barred a_o_cost a_o_last a_o_often x_o_hasBegun x_o_doneMany x_o_undoneMany a_o_changeOf a_o_changeAt a_o_before a_o_behind a_o_tape x_o_taped x_o_here x_o_fault x_o_open x_o_laid a_o_act a_o_with a_o_lineMany a_o_testEnd a_o_lineEnd a_o_facts a_o_pile x_o_hasLaw a_o_way a_o_bestWay x_o_bestMany a_o_wasHad a_o_wasLast x_o_wasAt x_o_wasNight x_o_hasImage x_o_keptLamps x_o_keptAt x_o_keptNight x_o_keptSpent a_o_keptHad a_o_keptTold a_o_keptLast a_o_keptOften x_o_bodies a_o_kind x_o_traces a_o_traced a_o_holds a_o_size a_o_elements a_o_shifted, A_I dA a_o_cost 10 x_o_cost, A_I dA a_o_changeOf 40 x_o_changeOf, A_I dA a_o_changeAt 40 x_o_changeAt, A_I dA a_o_before 40 x_o_before, A_I dA a_o_behind 40 x_o_behind]) C (c_Mo_valueAt (l := l) (D := D) (dA := dA) (a_o := a_o) (a_o_had := a_o_had) (a_o_told := a_o_told) (a_o_barred := a_o_barred) (a_o_cost := a_o_cost) (a_o_last := a_o_last) (a_o_often := a_o_often) (a_o_changeOf := a_o_changeOf) (a_o_changeAt := a_o_changeAt) (a_o_before := a_o_before) (a_o_behind := a_o_behind) (a_o_tape := a_o_tape) (a_o_act := a_o_act) (a_o_with := a_o_with) (a_o_lineMany := a_o_lineMany) (a_o_testEnd := a_o_testEnd) (a_o_lineEnd := a_o_lineEnd) (a_o_facts := a_o_facts) (a_o_pile := a_o_pile) (a_o_way := a_o_way) (a_o_bestWay := a_o_bestWay) (a_o_wasHad := a_o_wasHad) (a_o_wasLast := a_o_wasLast) (a_o_keptHad := a_o_keptHad) (a_o_keptTold := a_o_keptTold) (a_o_keptLast := a_o_keptLast) (a_o_keptOften := a_o_keptOften) (a_o_kind := a_o_kind) (a_o_traced := a_o_traced) (a_o_holds := a_o_holds) (a_o_size := a_o_size) (a_o_elements := a_o_elements) (a_o_shifted := a_o_shifted) (x_o_code := x_o_code) (x_o_lamps := x_o_lamps) (x_o_at := x_o_at) (x_o_night := x_o_night) (x_o_spent := x_o_spent) (x_o_rest := x_o_rest) (x_o_shy := x_o_shy) (x_o_hasBegun := x_o_hasBegun) (x_o_doneMany := x_o_doneMany) (x_o_undoneMany := x_o_undoneMany) (x_o_taped := x_o_taped) (x_o_here := x_o_here) (x_o_fault := x_o_fault) (x_o_open := x_o_open) (x_o_laid := x_o_laid) (x_o_hasLaw := x_o_hasLaw) (x_o_bestMany := x_o_bestMany) (x_o_wasAt := x_o_wasAt) (x_o_wasNight := x_o_wasNight) (x_o_hasImage := x_o_hasImage) (x_o_keptLamps := x_o_keptLamps) (x_o_keptAt := x_o_keptAt) (x_o_keptNight := x_o_keptNight) (x_o_keptSpent := x_o_keptSpent) (x_o_bodies := x_o_bodies) (x_o_traces := x_o_traces)   hc4) yy_Mo_valueAt kf_Mo rfl mw_5_134 d_Mo_changes_3 rfl [] rfl rfl (Nat.le_of_ble_eq_true rfl) ⟨Nat.le_of_ble_eq_true rfl, Nat.le_of_ble_eq_true rfl⟩ rfl rfl (Nat.zero_le _) (Nat.zero_le _) 0 rfl [0, 1] rfl (by decide +kernel) rfl (g_lay_sel _ _ _ _ [(0, true), (1, true), (2, false), (3, false), (4, false), (5, false)] (by decide +kernel) rfl (by decide +kernel) rfl rfl) rfl ?_
  refine g_istore (pc' := 8) (lv' := [(4, .int r3), (0, .ref a_o), (1, .int p1), (2, .int p2), (3, .int p3)]) C d_Mo_changes_6 rfl (by decide) rfl ?_
  refine g_iload (pc' := 10) C 0 d_Mo_changes_8 rfl rfl ?_
  refine g_iload_n (pc' := 11) C 4 d_Mo_changes_10 rfl rfl ?_
  refine g_icmp_ne (pc' := 14) (tgt := 17) C d_Mo_changes_11 rfl rfl (fun h => ?_) (fun h => ?_)
  · replace hf := g_in h hf
    refine g_aload_n (pc' := 18) C 1 d_Mo_changes_17 rfl rfl ?_
    refine g_iconst (pc' := 19) (v := 0) C d_Mo_changes_18 rfl rfl ?_
    refine g_put (pc' := 22) (ws' := [O_Mo a_o x_o_code x_o_lamps x_o_at x_o_night x_o_spent x_o_rest x_o_shy a_o_had a_o_told a_o_barred a_o_cost a_o_last a_o_often x_o_hasBegun x_o_doneMany (0 : Int32) a_o_changeOf a_o_changeAt a_o_before a_o_behind a_o_tape x_o_taped x_o_here x_o_fault x_o_open x_o_laid a_o_act a_o_with a_o_lineMany a_o_testEnd a_o_lineEnd a_o_facts a_o_pile x_o_hasLaw a_o_way a_o_bestWay x_o_bestMany a_o_wasHad a_o_wasLast x_o_wasAt x_o_wasNight x_o_hasImage x_o_keptLamps x_o_keptAt x_o_keptNight x_o_keptSpent a_o_keptHad a_o_keptTold a_o_keptLast a_o_keptOften x_o_bodies a_o_kind x_o_traces a_o_traced a_o_holds a_o_size a_o_elements a_o_shifted, A_I dA a_o_cost 10 x_o_cost, A_I dA a_o_changeOf 40 x_o_changeOf, A_I dA a_o_changeAt 40 x_o_changeAt, A_I dA a_o_before 40 x_o_before, A_I dA a_o_behind 40 x_o_behind]) C kf_Mo 15 mw_4_153 d_Mo_changes_19 rfl 0 rfl (by decide) rfl rfl rfl (Nat.le_of_ble_eq_true rfl) rfl ?_
    refine g_aload_n (pc' := 23) C 1 d_Mo_changes_22 rfl rfl ?_
    refine g_get (pc' := 26) C kf_Mo 14 mw_4_152 d_Mo_changes_23 rfl 0 rfl (by decide) rfl ?_
    refine g_bipush (pc' := 28) (v := 40) C d_Mo_changes_26 rfl rfl ?_
    refine g_icmp_ne (pc' := 31) (tgt := 121) C d_Mo_changes_28 rfl rfl (fun h => ?_) (fun h => ?_)
    · replace hf := g_in h hf
      refine g_lv (lv' := [(0, .ref a_o), (1, .int p1), (2, .int p2), (3, .int p3), (4, .int r3)]) [1, 2, 3, 4, 0] rfl ?_
      exact w_Mo_changes_L121 (a_o := a_o) (a_o_had := a_o_had) (a_o_told := a_o_told) (a_o_barred := a_o_barred) (a_o_cost := a_o_cost) (a_o_last := a_o_last) (a_o_often := a_o_often) (a_o_changeOf := a_o_changeOf) (a_o_changeAt := a_o_changeAt) (a_o_before := a_o_before) (a_o_behind := a_o_behind) (a_o_tape := a_o_tape) (a_o_act := a_o_act) (a_o_with := a_o_with) (a_o_lineMany := a_o_lineMany) (a_o_testEnd := a_o_testEnd) (a_o_lineEnd := a_o_lineEnd) (a_o_facts := a_o_facts) (a_o_pile := a_o_pile) (a_o_way := a_o_way) (a_o_bestWay := a_o_bestWay) (a_o_wasHad := a_o_wasHad) (a_o_wasLast := a_o_wasLast) (a_o_keptHad := a_o_keptHad) (a_o_keptTold := a_o_keptTold) (a_o_keptLast := a_o_keptLast) (a_o_keptOften := a_o_keptOften) (a_o_kind := a_o_kind) (a_o_traced := a_o_traced) (a_o_holds := a_o_holds) (a_o_size := a_o_size) (a_o_elements := a_o_elements) (a_o_shifted := a_o_shifted) C   p1 p2 p3 r3 x_o_doneMany (0 : Int32) x_o_cost x_o_changeOf x_o_changeAt x_o_before x_o_behind hf
    · replace hf := g_ip h hf
      refine g_iconst (pc' := 32) (v := 1) C d_Mo_changes_31 rfl rfl ?_
      refine g_istore (pc' := 34) (lv' := [(5, .int 1), (4, .int r3), (0, .ref a_o), (1, .int p1), (2, .int p2), (3, .int p3)]) C d_Mo_changes_32 rfl (by decide) rfl ?_
      refine g_lv (lv' := [(0, .ref a_o), (1, .int p1), (2, .int p2), (3, .int p3), (4, .int r3), (5, .int (1 : Int32))]) [2, 3, 4, 5, 1, 0] rfl ?_
      exact w_Mo_changes_L34 (a_o := a_o) (a_o_had := a_o_had) (a_o_told := a_o_told) (a_o_barred := a_o_barred) (a_o_cost := a_o_cost) (a_o_last := a_o_last) (a_o_often := a_o_often) (a_o_changeOf := a_o_changeOf) (a_o_changeAt := a_o_changeAt) (a_o_before := a_o_before) (a_o_behind := a_o_behind) (a_o_tape := a_o_tape) (a_o_act := a_o_act) (a_o_with := a_o_with) (a_o_lineMany := a_o_lineMany) (a_o_testEnd := a_o_testEnd) (a_o_lineEnd := a_o_lineEnd) (a_o_facts := a_o_facts) (a_o_pile := a_o_pile) (a_o_way := a_o_way) (a_o_bestWay := a_o_bestWay) (a_o_wasHad := a_o_wasHad) (a_o_wasLast := a_o_wasLast) (a_o_keptHad := a_o_keptHad) (a_o_keptTold := a_o_keptTold) (a_o_keptLast := a_o_keptLast) (a_o_keptOften := a_o_keptOften) (a_o_kind := a_o_kind) (a_o_traced := a_o_traced) (a_o_holds := a_o_holds) (a_o_size := a_o_size) (a_o_elements := a_o_elements) (a_o_shifted := a_o_shifted) C   3000 p1 p2 p3 r3 (1 : Int32) x_o_doneMany (0 : Int32) x_o_cost x_o_changeOf x_o_changeAt x_o_before x_o_behind hf
  · replace hf := g_ip h hf
    refine g_iload (pc' := 16) C 0 d_Mo_changes_14 rfl rfl ?_
    replace hf := g_o2 hf; obtain ⟨h1, hf⟩ := hf; subst h1
    replace hf := g_o2 hf; obtain ⟨h1, hf⟩ := hf; subst h1
    replace hf := g_o2 hf; obtain ⟨h1, hf⟩ := hf; subst h1
    replace hf := g_o2 hf; obtain ⟨h1, hf⟩ := hf; subst h1
    replace hf := g_o2 hf; obtain ⟨h1, hf⟩ := hf; subst h1
    replace hf := g_o2 hf; obtain ⟨h1, hf⟩ := hf; subst h1
    replace hf := g_o2 hf; obtain ⟨h1, hf⟩ := hf; subst h1
    replace hf := Option.some.inj hf; subst hf
    exact g_iret C d_Mo_changes_16 () rfl
