def y_Mo_layBack : MethodName := ⟨"OneLampModel", "layBack", "()V"⟩
theorem yy_Mo_layBack : YV y_Mo_layBack prog_13_method_62_code 2 none 0 := ⟨mw_6_86, mw_1_12, mw_6_85, tm_s (y := y_Mo_layBack) (n := 58) (by decide +kernel), by decide +kernel, by decide +kernel, by decide +kernel⟩
theorem d_Mo_layBack_0 : decode prog_13_method_62_code 0 = .ok (.aload_n 0, 1) := by decide +kernel
theorem d_Mo_layBack_1 : decode prog_13_method_62_code 1 = .ok (.aload_n 0, 1) := by decide +kernel
theorem d_Mo_layBack_2 : decode prog_13_method_62_code 2 = .ok (.getfield 293, 3) := by decide +kernel
theorem d_Mo_layBack_5 : decode prog_13_method_62_code 5 = .ok (.putfield 125, 3) := by decide +kernel
theorem d_Mo_layBack_8 : decode prog_13_method_62_code 8 = .ok (.aload_n 0, 1) := by decide +kernel
theorem d_Mo_layBack_9 : decode prog_13_method_62_code 9 = .ok (.aload_n 0, 1) := by decide +kernel
theorem d_Mo_layBack_10 : decode prog_13_method_62_code 10 = .ok (.getfield 296, 3) := by decide +kernel
theorem d_Mo_layBack_13 : decode prog_13_method_62_code 13 = .ok (.putfield 128, 3) := by decide +kernel
theorem d_Mo_layBack_16 : decode prog_13_method_62_code 16 = .ok (.iconst 0, 1) := by decide +kernel
theorem d_Mo_layBack_17 : decode prog_13_method_62_code 17 = .ok (.istore_n 1, 1) := by decide +kernel
theorem d_Mo_layBack_18 : decode prog_13_method_62_code 18 = .ok (.iload_n 1, 1) := by decide +kernel
theorem d_Mo_layBack_19 : decode prog_13_method_62_code 19 = .ok (.sipush 1024, 3) := by decide +kernel
theorem d_Mo_layBack_22 : decode prog_13_method_62_code 22 = .ok (.if_icmp .ge 21, 3) := by decide +kernel
theorem d_Mo_layBack_25 : decode prog_13_method_62_code 25 = .ok (.aload_n 0, 1) := by decide +kernel
theorem d_Mo_layBack_26 : decode prog_13_method_62_code 26 = .ok (.getfield 13, 3) := by decide +kernel
theorem d_Mo_layBack_29 : decode prog_13_method_62_code 29 = .ok (.iload_n 1, 1) := by decide +kernel
theorem d_Mo_layBack_30 : decode prog_13_method_62_code 30 = .ok (.aload_n 0, 1) := by decide +kernel
theorem d_Mo_layBack_31 : decode prog_13_method_62_code 31 = .ok (.getfield 77, 3) := by decide +kernel
theorem d_Mo_layBack_34 : decode prog_13_method_62_code 34 = .ok (.iload_n 1, 1) := by decide +kernel
theorem d_Mo_layBack_35 : decode prog_13_method_62_code 35 = .ok (.baload, 1) := by decide +kernel
theorem d_Mo_layBack_36 : decode prog_13_method_62_code 36 = .ok (.bastore, 1) := by decide +kernel
theorem d_Mo_layBack_37 : decode prog_13_method_62_code 37 = .ok (.iinc 1 1, 3) := by decide +kernel
theorem d_Mo_layBack_40 : decode prog_13_method_62_code 40 = .ok (.goto (-22), 3) := by decide +kernel
theorem d_Mo_layBack_43 : decode prog_13_method_62_code 43 = .ok (.iconst 0, 1) := by decide +kernel
theorem d_Mo_layBack_44 : decode prog_13_method_62_code 44 = .ok (.istore_n 1, 1) := by decide +kernel
theorem d_Mo_layBack_45 : decode prog_13_method_62_code 45 = .ok (.iload_n 1, 1) := by decide +kernel
theorem d_Mo_layBack_46 : decode prog_13_method_62_code 46 = .ok (.bipush 10, 2) := by decide +kernel
theorem d_Mo_layBack_48 : decode prog_13_method_62_code 48 = .ok (.if_icmp .ge 21, 3) := by decide +kernel
theorem d_Mo_layBack_51 : decode prog_13_method_62_code 51 = .ok (.aload_n 0, 1) := by decide +kernel
theorem d_Mo_layBack_52 : decode prog_13_method_62_code 52 = .ok (.getfield 27, 3) := by decide +kernel
theorem d_Mo_layBack_55 : decode prog_13_method_62_code 55 = .ok (.iload_n 1, 1) := by decide +kernel
theorem d_Mo_layBack_56 : decode prog_13_method_62_code 56 = .ok (.aload_n 0, 1) := by decide +kernel
theorem d_Mo_layBack_57 : decode prog_13_method_62_code 57 = .ok (.getfield 80, 3) := by decide +kernel
theorem d_Mo_layBack_60 : decode prog_13_method_62_code 60 = .ok (.iload_n 1, 1) := by decide +kernel
theorem d_Mo_layBack_61 : decode prog_13_method_62_code 61 = .ok (.iaload, 1) := by decide +kernel
theorem d_Mo_layBack_62 : decode prog_13_method_62_code 62 = .ok (.iastore, 1) := by decide +kernel
theorem d_Mo_layBack_63 : decode prog_13_method_62_code 63 = .ok (.iinc 1 1, 3) := by decide +kernel
theorem d_Mo_layBack_66 : decode prog_13_method_62_code 66 = .ok (.goto (-21), 3) := by decide +kernel
theorem d_Mo_layBack_69 : decode prog_13_method_62_code 69 = .ok (.return_, 1) := by decide +kernel
def f_Mo_layBack_L45   : Nat → Int32 → Int32 → Int32 → (Nat → Int32) → (Nat → Int32) → (Nat → Int32) → Option (Int32 × Int32 × (Nat → Int32) × (Nat → Int32))
  | 0, _, _, _, _, _, _ => none
  | n + 1, v1, x_o_at, x_o_night, x_o_had, x_o_wasLast, x_o_last =>
    if (10 : Int32) ≤ v1 then
      (some (x_o_at, x_o_night, x_o_had, x_o_last))
    else
      (if v1 < 0 ∨ 10 ≤ Int32.toNatClampNeg v1 then none else
      if v1 < 0 ∨ 10 ≤ Int32.toNatClampNeg v1 then none else
      f_Mo_layBack_L45  n (v1 + 1) x_o_at x_o_night x_o_had x_o_wasLast (upd x_o_last (Int32.toNatClampNeg v1) (x_o_wasLast (Int32.toNatClampNeg v1))))
set_option maxRecDepth 20000 in
theorem w_Mo_layBack_L45 {p : Program} {l : Launch} {e : Env} {s : State} {m : MethodId} {args : Array Value} {below : List Frame} {meth : Method} {c : Code} {D : va_G} {dA : Nat → ClassId} {A : Nat → Prop} (C : GC p s m args meth c prog_13_method_62_code 2 "OneLampModel" none D dA A) {a_o a_o_had a_o_told a_o_barred a_o_cost a_o_last a_o_often a_o_changeOf a_o_changeAt a_o_before a_o_behind a_o_tape a_o_act a_o_with a_o_lineMany a_o_testEnd a_o_lineEnd a_o_facts a_o_pile a_o_way a_o_bestWay a_o_wasHad a_o_wasLast a_o_keptHad a_o_keptTold a_o_keptLast a_o_keptOften a_o_kind a_o_traced a_o_holds a_o_size a_o_elements a_o_shifted : Nat} {x_o_code : Int32} {x_o_lamps : Int32} {x_o_spent : Int32} {x_o_rest : Int32} {x_o_shy : Int32} {x_o_hasBegun : Bool} {x_o_doneMany : Int32} {x_o_undoneMany : Int32} {x_o_taped : Int32} {x_o_here : Int32} {x_o_fault : Int32} {x_o_open : Int32} {x_o_laid : Int32} {x_o_hasLaw : Bool} {x_o_bestMany : Int32} {x_o_wasAt : Int32} {x_o_wasNight : Int32} {x_o_hasImage : Bool} {x_o_keptLamps : Int32} {x_o_keptAt : Int32} {x_o_keptNight : Int32} {x_o_keptSpent : Int32} {x_o_bodies : Int32} {x_o_traces : Int32} {x_o_wasHad : Nat → Int32} {o_x_o_at : Int32} {o_x_o_night : Int32} {o_x_o_had : Nat → Int32} {o_x_o_last : Nat → Int32}    : ∀ (n : Nat) (v1 : Int32) (x_o_at : Int32) (x_o_night : Int32) (x_o_had : Nat → Int32) (x_o_wasLast : Nat → Int32) (x_o_last : Nat → Int32), f_Mo_layBack_L45   n v1 x_o_at x_o_night x_o_had x_o_wasLast x_o_last = some (o_x_o_at, o_x_o_night, o_x_o_had, o_x_o_last) → GG p l e { frames := 0, cells := 0, slots := 0, locals := 0 } s m args below meth c 2 D A 0 0 (MQ below (cQ D A none (fun _ : Unit => [O_Mo a_o x_o_code x_o_lamps o_x_o_at o_x_o_night x_o_spent x_o_rest x_o_shy a_o_had a_o_told a_o_barred a_o_cost a_o_last a_o_often x_o_hasBegun x_o_doneMany x_o_undoneMany a_o_changeOf a_o_changeAt a_o_before a_o_behind a_o_tape x_o_taped x_o_here x_o_fault x_o_open x_o_laid a_o_act a_o_with a_o_lineMany a_o_testEnd a_o_lineEnd a_o_facts a_o_pile x_o_hasLaw a_o_way a_o_bestWay x_o_bestMany a_o_wasHad a_o_wasLast x_o_wasAt x_o_wasNight x_o_hasImage x_o_keptLamps x_o_keptAt x_o_keptNight x_o_keptSpent a_o_keptHad a_o_keptTold a_o_keptLast a_o_keptOften x_o_bodies a_o_kind x_o_traces a_o_traced a_o_holds a_o_size a_o_elements a_o_shifted, A_Z dA a_o_wasHad 1024 x_o_wasHad, A_Z dA a_o_had 1024 o_x_o_had, A_I dA a_o_wasLast 10 x_o_wasLast, A_I dA a_o_last 10 o_x_o_last])) args s 0 0 A) 45 [(0, .ref a_o), (1, .int v1)] [] [O_Mo a_o x_o_code x_o_lamps x_o_at x_o_night x_o_spent x_o_rest x_o_shy a_o_had a_o_told a_o_barred a_o_cost a_o_last a_o_often x_o_hasBegun x_o_doneMany x_o_undoneMany a_o_changeOf a_o_changeAt a_o_before a_o_behind a_o_tape x_o_taped x_o_here x_o_fault x_o_open x_o_laid a_o_act a_o_with a_o_lineMany a_o_testEnd a_o_lineEnd a_o_facts a_o_pile x_o_hasLaw a_o_way a_o_bestWay x_o_bestMany a_o_wasHad a_o_wasLast x_o_wasAt x_o_wasNight x_o_hasImage x_o_keptLamps x_o_keptAt x_o_keptNight x_o_keptSpent a_o_keptHad a_o_keptTold a_o_keptLast a_o_keptOften x_o_bodies a_o_kind x_o_traces a_o_traced a_o_holds a_o_size a_o_elements a_o_shifted, A_Z dA a_o_wasHad 1024 x_o_wasHad, A_Z dA a_o_had 1024 x_o_had, A_I dA a_o_wasLast 10 x_o_wasLast, A_I dA a_o_last 10 x_o_last] := by
  intro n
  induction n with
  | zero =>
    intro v1 x_o_at x_o_night x_o_had x_o_wasLast x_o_last hf
    cases hf
  | succ n ih =>
    intro v1 x_o_at x_o_night x_o_had x_o_wasLast x_o_last hf
    unfold f_Mo_layBack_L45 at hf
    refine g_iload_n (pc' := 46) C 1 d_Mo_layBack_45 rfl rfl ?_
    refine g_bipush (pc' := 48) (v := 10) C d_Mo_layBack_46 rfl rfl ?_
    refine g_icmp_ge (pc' := 51) (tgt := 69) C d_Mo_layBack_48 rfl rfl (fun h => ?_) (fun h => ?_)
    · replace hf := g_ip h hf
      replace hf := g_o2 hf; obtain ⟨h1, hf⟩ := hf; subst h1
      replace hf := g_o2 hf; obtain ⟨h1, hf⟩ := hf; subst h1
      replace hf := g_o2 hf; obtain ⟨h1, hf⟩ := hf; subst h1
      replace hf := Option.some.inj hf; subst hf
      exact g_vret C d_Mo_layBack_69 () rfl
    · replace hf := g_in h hf
      refine g_aload_n (pc' := 52) C 0 d_Mo_layBack_51 rfl rfl ?_
      refine g_get (pc' := 55) C kf_Mo 11 mw_4_149 d_Mo_layBack_52 rfl 0 rfl (by decide) rfl ?_
      refine g_iload_n (pc' := 56) C 1 d_Mo_layBack_55 rfl rfl ?_
      refine g_aload_n (pc' := 57) C 0 d_Mo_layBack_56 rfl rfl ?_
      refine g_get (pc' := 60) C kf_Mo 38 mw_4_176 d_Mo_layBack_57 rfl 0 rfl (by decide) rfl ?_
      refine g_iload_n (pc' := 61) C 1 d_Mo_layBack_60 rfl rfl ?_
      have hb := g_ck hf
      replace hf := g_in hb hf
      refine g_iald (pc' := 62) C d_Mo_layBack_61 rfl 3 rfl hb ?_
      have hb := g_ck hf
      replace hf := g_in hb hf
      refine g_iast (pc' := 63) (ws' := [O_Mo a_o x_o_code x_o_lamps x_o_at x_o_night x_o_spent x_o_rest x_o_shy a_o_had a_o_told a_o_barred a_o_cost a_o_last a_o_often x_o_hasBegun x_o_doneMany x_o_undoneMany a_o_changeOf a_o_changeAt a_o_before a_o_behind a_o_tape x_o_taped x_o_here x_o_fault x_o_open x_o_laid a_o_act a_o_with a_o_lineMany a_o_testEnd a_o_lineEnd a_o_facts a_o_pile x_o_hasLaw a_o_way a_o_bestWay x_o_bestMany a_o_wasHad a_o_wasLast x_o_wasAt x_o_wasNight x_o_hasImage x_o_keptLamps x_o_keptAt x_o_keptNight x_o_keptSpent a_o_keptHad a_o_keptTold a_o_keptLast a_o_keptOften x_o_bodies a_o_kind x_o_traces a_o_traced a_o_holds a_o_size a_o_elements a_o_shifted, A_Z dA a_o_wasHad 1024 x_o_wasHad, A_Z dA a_o_had 1024 x_o_had, A_I dA a_o_wasLast 10 x_o_wasLast, A_I dA a_o_last 10 (upd x_o_last (Int32.toNatClampNeg v1) (x_o_wasLast (Int32.toNatClampNeg v1)))]) C d_Mo_layBack_62 rfl 4 rfl hb rfl ?_
      refine g_iinc (pc' := 66) (j := 1) (v := (v1 + 1)) (lv' := [(1, .int (v1 + 1)), (0, .ref a_o)]) C d_Mo_layBack_63 rfl rfl rfl (by decide) rfl ?_
      refine g_goto (tgt := 45) C d_Mo_layBack_66 rfl ?_
      refine g_lv (lv' := [(0, .ref a_o), (1, .int (v1 + 1))]) [1, 0] rfl ?_
      exact ih (v1 + 1) x_o_at x_o_night x_o_had x_o_wasLast (upd x_o_last (Int32.toNatClampNeg v1) (x_o_wasLast (Int32.toNatClampNeg v1))) hf
def f_Mo_layBack_L18   : Nat → Int32 → Int32 → Int32 → (Nat → Int32) → (Nat → Int32) → (Nat → Int32) → (Nat → Int32) → Option (Int32 × Int32 × (Nat → Int32) × (Nat → Int32))
  | 0, _, _, _, _, _, _, _ => none
  | n + 1, v1, x_o_at, x_o_night, x_o_wasHad, x_o_had, x_o_wasLast, x_o_last =>
    if (1024 : Int32) ≤ v1 then
      (f_Mo_layBack_L45  3000 (0 : Int32) x_o_at x_o_night x_o_had x_o_wasLast x_o_last)
    else
      (if v1 < 0 ∨ 1024 ≤ Int32.toNatClampNeg v1 then none else
      if v1 < 0 ∨ 1024 ≤ Int32.toNatClampNeg v1 then none else
      f_Mo_layBack_L18  n (v1 + 1) x_o_at x_o_night x_o_wasHad (upd x_o_had (Int32.toNatClampNeg v1) (vp_nar .boolean (x_o_wasHad (Int32.toNatClampNeg v1)))) x_o_wasLast x_o_last)
set_option maxRecDepth 20000 in
theorem w_Mo_layBack_L18 {p : Program} {l : Launch} {e : Env} {s : State} {m : MethodId} {args : Array Value} {below : List Frame} {meth : Method} {c : Code} {D : va_G} {dA : Nat → ClassId} {A : Nat → Prop} (C : GC p s m args meth c prog_13_method_62_code 2 "OneLampModel" none D dA A) {a_o a_o_had a_o_told a_o_barred a_o_cost a_o_last a_o_often a_o_changeOf a_o_changeAt a_o_before a_o_behind a_o_tape a_o_act a_o_with a_o_lineMany a_o_testEnd a_o_lineEnd a_o_facts a_o_pile a_o_way a_o_bestWay a_o_wasHad a_o_wasLast a_o_keptHad a_o_keptTold a_o_keptLast a_o_keptOften a_o_kind a_o_traced a_o_holds a_o_size a_o_elements a_o_shifted : Nat} {x_o_code : Int32} {x_o_lamps : Int32} {x_o_spent : Int32} {x_o_rest : Int32} {x_o_shy : Int32} {x_o_hasBegun : Bool} {x_o_doneMany : Int32} {x_o_undoneMany : Int32} {x_o_taped : Int32} {x_o_here : Int32} {x_o_fault : Int32} {x_o_open : Int32} {x_o_laid : Int32} {x_o_hasLaw : Bool} {x_o_bestMany : Int32} {x_o_wasAt : Int32} {x_o_wasNight : Int32} {x_o_hasImage : Bool} {x_o_keptLamps : Int32} {x_o_keptAt : Int32} {x_o_keptNight : Int32} {x_o_keptSpent : Int32} {x_o_bodies : Int32} {x_o_traces : Int32} {o_x_o_at : Int32} {o_x_o_night : Int32} {o_x_o_had : Nat → Int32} {o_x_o_last : Nat → Int32}    : ∀ (n : Nat) (v1 : Int32) (x_o_at : Int32) (x_o_night : Int32) (x_o_wasHad : Nat → Int32) (x_o_had : Nat → Int32) (x_o_wasLast : Nat → Int32) (x_o_last : Nat → Int32), f_Mo_layBack_L18   n v1 x_o_at x_o_night x_o_wasHad x_o_had x_o_wasLast x_o_last = some (o_x_o_at, o_x_o_night, o_x_o_had, o_x_o_last) → GG p l e { frames := 0, cells := 0, slots := 0, locals := 0 } s m args below meth c 2 D A 0 0 (MQ below (cQ D A none (fun _ : Unit => [O_Mo a_o x_o_code x_o_lamps o_x_o_at o_x_o_night x_o_spent x_o_rest x_o_shy a_o_had a_o_told a_o_barred a_o_cost a_o_last a_o_often x_o_hasBegun x_o_doneMany x_o_undoneMany a_o_changeOf a_o_changeAt a_o_before a_o_behind a_o_tape x_o_taped x_o_here x_o_fault x_o_open x_o_laid a_o_act a_o_with a_o_lineMany a_o_testEnd a_o_lineEnd a_o_facts a_o_pile x_o_hasLaw a_o_way a_o_bestWay x_o_bestMany a_o_wasHad a_o_wasLast x_o_wasAt x_o_wasNight x_o_hasImage x_o_keptLamps x_o_keptAt x_o_keptNight x_o_keptSpent a_o_keptHad a_o_keptTold a_o_keptLast a_o_keptOften x_o_bodies a_o_kind x_o_traces a_o_traced a_o_holds a_o_size a_o_elements a_o_shifted, A_Z dA a_o_wasHad 1024 x_o_wasHad, A_Z dA a_o_had 1024 o_x_o_had, A_I dA a_o_wasLast 10 x_o_wasLast, A_I dA a_o_last 10 o_x_o_last])) args s 0 0 A) 18 [(0, .ref a_o), (1, .int v1)] [] [O_Mo a_o x_o_code x_o_lamps x_o_at x_o_night x_o_spent x_o_rest x_o_shy a_o_had a_o_told a_o_barred a_o_cost a_o_last a_o_often x_o_hasBegun x_o_doneMany x_o_undoneMany a_o_changeOf a_o_changeAt a_o_before a_o_behind a_o_tape x_o_taped x_o_here x_o_fault x_o_open x_o_laid a_o_act a_o_with a_o_lineMany a_o_testEnd a_o_lineEnd a_o_facts a_o_pile x_o_hasLaw a_o_way a_o_bestWay x_o_bestMany a_o_wasHad a_o_wasLast x_o_wasAt x_o_wasNight x_o_hasImage x_o_keptLamps x_o_keptAt x_o_keptNight x_o_keptSpent a_o_keptHad a_o_keptTold a_o_keptLast a_o_keptOften x_o_bodies a_o_kind x_o_traces a_o_traced a_o_holds a_o_size a_o_elements a_o_shifted, A_Z dA a_o_wasHad 1024 x_o_wasHad, A_Z dA a_o_had 1024 x_o_had, A_I dA a_o_wasLast 10 x_o_wasLast, A_I dA a_o_last 10 x_o_last] := by
  intro n
  induction n with
  | zero =>
    intro v1 x_o_at x_o_night x_o_wasHad x_o_had x_o_wasLast x_o_last hf
    cases hf
  | succ n ih =>
    intro v1 x_o_at x_o_night x_o_wasHad x_o_had x_o_wasLast x_o_last hf
    unfold f_Mo_layBack_L18 at hf
    refine g_iload_n (pc' := 19) C 1 d_Mo_layBack_18 rfl rfl ?_
    refine g_sipush (pc' := 22) (v := 1024) C d_Mo_layBack_19 rfl rfl ?_
    refine g_icmp_ge (pc' := 25) (tgt := 43) C d_Mo_layBack_22 rfl rfl (fun h => ?_) (fun h => ?_)
    · replace hf := g_ip h hf
      refine g_iconst (pc' := 44) (v := 0) C d_Mo_layBack_43 rfl rfl ?_
      refine g_istore_n (pc' := 45) (lv' := [(1, .int 0), (0, .ref a_o)]) C d_Mo_layBack_44 rfl (by decide) rfl ?_
      refine g_lv (lv' := [(0, .ref a_o), (1, .int (0 : Int32))]) [1, 0] rfl ?_
      exact w_Mo_layBack_L45 (a_o := a_o) (a_o_had := a_o_had) (a_o_told := a_o_told) (a_o_barred := a_o_barred) (a_o_cost := a_o_cost) (a_o_last := a_o_last) (a_o_often := a_o_often) (a_o_changeOf := a_o_changeOf) (a_o_changeAt := a_o_changeAt) (a_o_before := a_o_before) (a_o_behind := a_o_behind) (a_o_tape := a_o_tape) (a_o_act := a_o_act) (a_o_with := a_o_with) (a_o_lineMany := a_o_lineMany) (a_o_testEnd := a_o_testEnd) (a_o_lineEnd := a_o_lineEnd) (a_o_facts := a_o_facts) (a_o_pile := a_o_pile) (a_o_way := a_o_way) (a_o_bestWay := a_o_bestWay) (a_o_wasHad := a_o_wasHad) (a_o_wasLast := a_o_wasLast) (a_o_keptHad := a_o_keptHad) (a_o_keptTold := a_o_keptTold) (a_o_keptLast := a_o_keptLast) (a_o_keptOften := a_o_keptOften) (a_o_kind := a_o_kind) (a_o_traced := a_o_traced) (a_o_holds := a_o_holds) (a_o_size := a_o_size) (a_o_elements := a_o_elements) (a_o_shifted := a_o_shifted) C   3000 (0 : Int32) x_o_at x_o_night x_o_had x_o_wasLast x_o_last hf
    · replace hf := g_in h hf
      refine g_aload_n (pc' := 26) C 0 d_Mo_layBack_25 rfl rfl ?_
      refine g_get (pc' := 29) C kf_Mo 7 mw_4_145 d_Mo_layBack_26 rfl 0 rfl (by decide) rfl ?_
      refine g_iload_n (pc' := 30) C 1 d_Mo_layBack_29 rfl rfl ?_
      refine g_aload_n (pc' := 31) C 0 d_Mo_layBack_30 rfl rfl ?_
      refine g_get (pc' := 34) C kf_Mo 37 mw_4_175 d_Mo_layBack_31 rfl 0 rfl (by decide) rfl ?_
      refine g_iload_n (pc' := 35) C 1 d_Mo_layBack_34 rfl rfl ?_
      have hb := g_ck hf
      replace hf := g_in hb hf
      refine g_zald (pc' := 36) C d_Mo_layBack_35 rfl 1 rfl hb ?_
      have hb := g_ck hf
      replace hf := g_in hb hf
      refine g_zast (pc' := 37) (ws' := [O_Mo a_o x_o_code x_o_lamps x_o_at x_o_night x_o_spent x_o_rest x_o_shy a_o_had a_o_told a_o_barred a_o_cost a_o_last a_o_often x_o_hasBegun x_o_doneMany x_o_undoneMany a_o_changeOf a_o_changeAt a_o_before a_o_behind a_o_tape x_o_taped x_o_here x_o_fault x_o_open x_o_laid a_o_act a_o_with a_o_lineMany a_o_testEnd a_o_lineEnd a_o_facts a_o_pile x_o_hasLaw a_o_way a_o_bestWay x_o_bestMany a_o_wasHad a_o_wasLast x_o_wasAt x_o_wasNight x_o_hasImage x_o_keptLamps x_o_keptAt x_o_keptNight x_o_keptSpent a_o_keptHad a_o_keptTold a_o_keptLast a_o_keptOften x_o_bodies a_o_kind x_o_traces a_o_traced a_o_holds a_o_size a_o_elements a_o_shifted, A_Z dA a_o_wasHad 1024 x_o_wasHad, A_Z dA a_o_had 1024 (upd x_o_had (Int32.toNatClampNeg v1) (vp_nar .boolean (x_o_wasHad (Int32.toNatClampNeg v1)))), A_I dA a_o_wasLast 10 x_o_wasLast, A_I dA a_o_last 10 x_o_last]) C d_Mo_layBack_36 rfl 2 rfl hb rfl ?_
      refine g_iinc (pc' := 40) (j := 1) (v := (v1 + 1)) (lv' := [(1, .int (v1 + 1)), (0, .ref a_o)]) C d_Mo_layBack_37 rfl rfl rfl (by decide) rfl ?_
      refine g_goto (tgt := 18) C d_Mo_layBack_40 rfl ?_
      refine g_lv (lv' := [(0, .ref a_o), (1, .int (v1 + 1))]) [1, 0] rfl ?_
      exact ih (v1 + 1) x_o_at x_o_night x_o_wasHad (upd x_o_had (Int32.toNatClampNeg v1) (vp_nar .boolean (x_o_wasHad (Int32.toNatClampNeg v1)))) x_o_wasLast x_o_last hf
def f_Mo_layBack  (x_o_at : Int32) (x_o_night : Int32) (x_o_wasAt : Int32) (x_o_wasNight : Int32) (x_o_wasHad : Nat → Int32) (x_o_had : Nat → Int32) (x_o_wasLast : Nat → Int32) (x_o_last : Nat → Int32) : Option (Int32 × Int32 × (Nat → Int32) × (Nat → Int32)) :=
  f_Mo_layBack_L18  3000 (0 : Int32) x_o_wasAt x_o_wasNight x_o_wasHad x_o_had x_o_wasLast x_o_last
set_option maxRecDepth 20000 in
theorem c_Mo_layBack {l : Launch} {D : va_G} {dA : Nat → ClassId} {a_o a_o_had a_o_told a_o_barred a_o_cost a_o_last a_o_often a_o_changeOf a_o_changeAt a_o_before a_o_behind a_o_tape a_o_act a_o_with a_o_lineMany a_o_testEnd a_o_lineEnd a_o_facts a_o_pile a_o_way a_o_bestWay a_o_wasHad a_o_wasLast a_o_keptHad a_o_keptTold a_o_keptLast a_o_keptOften a_o_kind a_o_traced a_o_holds a_o_size a_o_elements a_o_shifted : Nat} {x_o_code : Int32} {x_o_lamps : Int32} {x_o_spent : Int32} {x_o_rest : Int32} {x_o_shy : Int32} {x_o_hasBegun : Bool} {x_o_doneMany : Int32} {x_o_undoneMany : Int32} {x_o_taped : Int32} {x_o_here : Int32} {x_o_fault : Int32} {x_o_open : Int32} {x_o_laid : Int32} {x_o_hasLaw : Bool} {x_o_bestMany : Int32} {x_o_hasImage : Bool} {x_o_keptLamps : Int32} {x_o_keptAt : Int32} {x_o_keptNight : Int32} {x_o_keptSpent : Int32} {x_o_bodies : Int32} {x_o_traces : Int32} {x_o_at : Int32} {x_o_night : Int32} {x_o_wasAt : Int32} {x_o_wasNight : Int32} {x_o_wasHad : Nat → Int32} {x_o_had : Nat → Int32} {x_o_wasLast : Nat → Int32} {x_o_last : Nat → Int32} {o_x_o_at : Int32} {o_x_o_night : Int32} {o_x_o_had : Nat → Int32} {o_x_o_last : Nat → Int32}   (hf : f_Mo_layBack  x_o_at x_o_night x_o_wasAt x_o_wasNight x_o_wasHad x_o_had x_o_wasLast x_o_last = some (o_x_o_at, o_x_o_night, o_x_o_had, o_x_o_last)) : CT l y_Mo_layBack prog_13_method_62_code 2 none { frames := 0, cells := 0, slots := 0, locals := 0 } D dA [.ref a_o] [O_Mo a_o x_o_code x_o_lamps x_o_at x_o_night x_o_spent x_o_rest x_o_shy a_o_had a_o_told a_o_barred a_o_cost a_o_last a_o_often x_o_hasBegun x_o_doneMany x_o_undoneMany a_o_changeOf a_o_changeAt a_o_before a_o_behind a_o_tape x_o_taped x_o_here x_o_fault x_o_open x_o_laid a_o_act a_o_with a_o_lineMany a_o_testEnd a_o_lineEnd a_o_facts a_o_pile x_o_hasLaw a_o_way a_o_bestWay x_o_bestMany a_o_wasHad a_o_wasLast x_o_wasAt x_o_wasNight x_o_hasImage x_o_keptLamps x_o_keptAt x_o_keptNight x_o_keptSpent a_o_keptHad a_o_keptTold a_o_keptLast a_o_keptOften x_o_bodies a_o_kind x_o_traces a_o_traced a_o_holds a_o_size a_o_elements a_o_shifted, A_Z dA a_o_wasHad 1024 x_o_wasHad, A_Z dA a_o_had 1024 x_o_had, A_I dA a_o_wasLast 10 x_o_wasLast, A_I dA a_o_last 10 x_o_last] none (fun _ : Unit => [O_Mo a_o x_o_code x_o_lamps o_x_o_at o_x_o_night x_o_spent x_o_rest x_o_shy a_o_had a_o_told a_o_barred a_o_cost a_o_last a_o_often x_o_hasBegun x_o_doneMany x_o_undoneMany a_o_changeOf a_o_changeAt a_o_before a_o_behind a_o_tape x_o_taped x_o_here x_o_fault x_o_open x_o_laid a_o_act a_o_with a_o_lineMany a_o_testEnd a_o_lineEnd a_o_facts a_o_pile x_o_hasLaw a_o_way a_o_bestWay x_o_bestMany a_o_wasHad a_o_wasLast x_o_wasAt x_o_wasNight x_o_hasImage x_o_keptLamps x_o_keptAt x_o_keptNight x_o_keptSpent a_o_keptHad a_o_keptTold a_o_keptLast a_o_keptOften x_o_bodies a_o_kind x_o_traces a_o_traced a_o_holds a_o_size a_o_elements a_o_shifted, A_Z dA a_o_wasHad 1024 x_o_wasHad, A_Z dA a_o_had 1024 o_x_o_had, A_I dA a_o_wasLast 10 x_o_wasLast, A_I dA a_o_last 10 o_x_o_last]) := by
  refine ct_intro "OneLampModel" rfl (by decide +kernel) (Nat.le_of_ble_eq_true rfl) [(0, .ref a_o)] rfl (fun _ C => ?_)
  unfold f_Mo_layBack at hf
  refine g_aload_n (pc' := 1) C 0 d_Mo_layBack_0 rfl rfl ?_
  refine g_aload_n (pc' := 2) C 0 d_Mo_layBack_1 rfl rfl ?_
  refine g_get (pc' := 5) C kf_Mo 39 mw_4_177 d_Mo_layBack_2 rfl 0 rfl (by decide) rfl ?_
  refine g_put (pc' := 8) (ws' := [O_Mo a_o x_o_code x_o_lamps x_o_wasAt x_o_night x_o_spent x_o_rest x_o_shy a_o_had a_o_told a_o_barred a_o_cost a_o_last a_o_often x_o_hasBegun x_o_doneMany x_o_undoneMany a_o_changeOf a_o_changeAt a_o_before a_o_behind a_o_tape x_o_taped x_o_here x_o_fault x_o_open x_o_laid a_o_act a_o_with a_o_lineMany a_o_testEnd a_o_lineEnd a_o_facts a_o_pile x_o_hasLaw a_o_way a_o_bestWay x_o_bestMany a_o_wasHad a_o_wasLast x_o_wasAt x_o_wasNight x_o_hasImage x_o_keptLamps x_o_keptAt x_o_keptNight x_o_keptSpent a_o_keptHad a_o_keptTold a_o_keptLast a_o_keptOften x_o_bodies a_o_kind x_o_traces a_o_traced a_o_holds a_o_size a_o_elements a_o_shifted, A_Z dA a_o_wasHad 1024 x_o_wasHad, A_Z dA a_o_had 1024 x_o_had, A_I dA a_o_wasLast 10 x_o_wasLast, A_I dA a_o_last 10 x_o_last]) C kf_Mo 2 mw_4_140 d_Mo_layBack_5 rfl 0 rfl (by decide) rfl rfl rfl (Nat.le_of_ble_eq_true rfl) rfl ?_
  refine g_aload_n (pc' := 9) C 0 d_Mo_layBack_8 rfl rfl ?_
  refine g_aload_n (pc' := 10) C 0 d_Mo_layBack_9 rfl rfl ?_
  refine g_get (pc' := 13) C kf_Mo 40 mw_4_178 d_Mo_layBack_10 rfl 0 rfl (by decide) rfl ?_
  refine g_put (pc' := 16) (ws' := [O_Mo a_o x_o_code x_o_lamps x_o_wasAt x_o_wasNight x_o_spent x_o_rest x_o_shy a_o_had a_o_told a_o_barred a_o_cost a_o_last a_o_often x_o_hasBegun x_o_doneMany x_o_undoneMany a_o_changeOf a_o_changeAt a_o_before a_o_behind a_o_tape x_o_taped x_o_here x_o_fault x_o_open x_o_laid a_o_act a_o_with a_o_lineMany a_o_testEnd a_o_lineEnd a_o_facts a_o_pile x_o_hasLaw a_o_way a_o_bestWay x_o_bestMany a_o_wasHad a_o_wasLast x_o_wasAt x_o_wasNight x_o_hasImage x_o_keptLamps x_o_keptAt x_o_keptNight x_o_keptSpent a_o_keptHad a_o_keptTold a_o_keptLast a_o_keptOften x_o_bodies a_o_kind x_o_traces a_o_traced a_o_holds a_o_size a_o_elements a_o_shifted, A_Z dA a_o_wasHad 1024 x_o_wasHad, A_Z dA a_o_had 1024 x_o_had, A_I dA a_o_wasLast 10 x_o_wasLast, A_I dA a_o_last 10 x_o_last]) C kf_Mo 3 mw_4_141 d_Mo_layBack_13 rfl 0 rfl (by decide) rfl rfl rfl (Nat.le_of_ble_eq_true rfl) rfl ?_
  refine g_iconst (pc' := 17) (v := 0) C d_Mo_layBack_16 rfl rfl ?_
  refine g_istore_n (pc' := 18) (lv' := [(1, .int 0), (0, .ref a_o)]) C d_Mo_layBack_17 rfl (by decide) rfl ?_
  refine g_lv (lv' := [(0, .ref a_o), (1, .int (0 : Int32))]) [1, 0] rfl ?_
  exact w_Mo_layBack_L18 (a_o := a_o) (a_o_had := a_o_had) (a_o_told := a_o_told) (a_o_barred := a_o_barred) (a_o_cost := a_o_cost) (a_o_last := a_o_last) (a_o_often := a_o_often) (a_o_changeOf := a_o_changeOf) (a_o_changeAt := a_o_changeAt) (a_o_before := a_o_before) (a_o_behind := a_o_behind) (a_o_tape := a_o_tape) (a_o_act := a_o_act) (a_o_with := a_o_with) (a_o_lineMany := a_o_lineMany) (a_o_testEnd := a_o_testEnd) (a_o_lineEnd := a_o_lineEnd) (a_o_facts := a_o_facts) (a_o_pile := a_o_pile) (a_o_way := a_o_way) (a_o_bestWay := a_o_bestWay) (a_o_wasHad := a_o_wasHad) (a_o_wasLast := a_o_wasLast) (a_o_keptHad := a_o_keptHad) (a_o_keptTold := a_o_keptTold) (a_o_keptLast := a_o_keptLast) (a_o_keptOften := a_o_keptOften) (a_o_kind := a_o_kind) (a_o_traced := a_o_traced) (a_o_holds := a_o_holds) (a_o_size := a_o_size) (a_o_elements := a_o_elements) (a_o_shifted := a_o_shifted) C   3000 (0 : Int32) x_o_wasAt x_o_wasNight x_o_wasHad x_o_had x_o_wasLast x_o_last hf
def y_Mo_lampTo : MethodName := ⟨"OneLampModel", "lampTo", "(I)I"⟩
theorem yy_Mo_lampTo : YV y_Mo_lampTo prog_13_method_63_code 3 (some .int) 1 := ⟨mw_6_82, mw_1_12, mw_6_81, tm_s (y := y_Mo_lampTo) (n := 58) (by decide +kernel), by decide +kernel, by decide +kernel, by decide +kernel⟩
theorem d_Mo_lampTo_0 : decode prog_13_method_63_code 0 = .ok (.iconst 0, 1) := by decide +kernel
theorem d_Mo_lampTo_1 : decode prog_13_method_63_code 1 = .ok (.istore_n 2, 1) := by decide +kernel
theorem d_Mo_lampTo_2 : decode prog_13_method_63_code 2 = .ok (.iload_n 2, 1) := by decide +kernel
theorem d_Mo_lampTo_3 : decode prog_13_method_63_code 3 = .ok (.aload_n 0, 1) := by decide +kernel
theorem d_Mo_lampTo_4 : decode prog_13_method_63_code 4 = .ok (.getfield 7, 3) := by decide +kernel
theorem d_Mo_lampTo_7 : decode prog_13_method_63_code 7 = .ok (.if_icmp .ge 23, 3) := by decide +kernel
theorem d_Mo_lampTo_10 : decode prog_13_method_63_code 10 = .ok (.aload_n 0, 1) := by decide +kernel
theorem d_Mo_lampTo_11 : decode prog_13_method_63_code 11 = .ok (.getfield 125, 3) := by decide +kernel
theorem d_Mo_lampTo_14 : decode prog_13_method_63_code 14 = .ok (.iconst 1, 1) := by decide +kernel
theorem d_Mo_lampTo_15 : decode prog_13_method_63_code 15 = .ok (.iload_n 2, 1) := by decide +kernel
theorem d_Mo_lampTo_16 : decode prog_13_method_63_code 16 = .ok (.ishl, 1) := by decide +kernel
theorem d_Mo_lampTo_17 : decode prog_13_method_63_code 17 = .ok (.ixor, 1) := by decide +kernel
theorem d_Mo_lampTo_18 : decode prog_13_method_63_code 18 = .ok (.iload_n 1, 1) := by decide +kernel
theorem d_Mo_lampTo_19 : decode prog_13_method_63_code 19 = .ok (.if_icmp .ne 5, 3) := by decide +kernel
theorem d_Mo_lampTo_22 : decode prog_13_method_63_code 22 = .ok (.iload_n 2, 1) := by decide +kernel
theorem d_Mo_lampTo_23 : decode prog_13_method_63_code 23 = .ok (.ireturn, 1) := by decide +kernel
theorem d_Mo_lampTo_24 : decode prog_13_method_63_code 24 = .ok (.iinc 2 1, 3) := by decide +kernel
theorem d_Mo_lampTo_27 : decode prog_13_method_63_code 27 = .ok (.goto (-25), 3) := by decide +kernel
theorem d_Mo_lampTo_30 : decode prog_13_method_63_code 30 = .ok (.iconst (-1), 1) := by decide +kernel
theorem d_Mo_lampTo_31 : decode prog_13_method_63_code 31 = .ok (.ireturn, 1) := by decide +kernel
def f_Mo_lampTo_L2   : Nat → Int32 → Int32 → Int32 → Int32 → Option (Int32)
  | 0, _, _, _, _ => none
  | n + 1, v1, v2, x_o_lamps, x_o_at =>
    if x_o_lamps ≤ v2 then
      (some ((-1 : Int32)))
    else
      (if (x_o_at ^^^ ((1 : Int32) <<< (v2 &&& 31))) = v1 then
        (some (v2))
      else
        (f_Mo_lampTo_L2  n v1 (v2 + 1) x_o_lamps x_o_at))
set_option maxRecDepth 20000 in
theorem w_Mo_lampTo_L2 {p : Program} {l : Launch} {e : Env} {s : State} {m : MethodId} {args : Array Value} {below : List Frame} {meth : Method} {c : Code} {D : va_G} {dA : Nat → ClassId} {A : Nat → Prop} (C : GC p s m args meth c prog_13_method_63_code 3 "OneLampModel" (some .int) D dA A) {a_o a_o_had a_o_told a_o_barred a_o_cost a_o_last a_o_often a_o_changeOf a_o_changeAt a_o_before a_o_behind a_o_tape a_o_act a_o_with a_o_lineMany a_o_testEnd a_o_lineEnd a_o_facts a_o_pile a_o_way a_o_bestWay a_o_wasHad a_o_wasLast a_o_keptHad a_o_keptTold a_o_keptLast a_o_keptOften a_o_kind a_o_traced a_o_holds a_o_size a_o_elements a_o_shifted : Nat} {x_o_code : Int32} {x_o_night : Int32} {x_o_spent : Int32} {x_o_rest : Int32} {x_o_shy : Int32} {x_o_hasBegun : Bool} {x_o_doneMany : Int32} {x_o_undoneMany : Int32} {x_o_taped : Int32} {x_o_here : Int32} {x_o_fault : Int32} {x_o_open : Int32} {x_o_laid : Int32} {x_o_hasLaw : Bool} {x_o_bestMany : Int32} {x_o_wasAt : Int32} {x_o_wasNight : Int32} {x_o_hasImage : Bool} {x_o_keptLamps : Int32} {x_o_keptAt : Int32} {x_o_keptNight : Int32} {x_o_keptSpent : Int32} {x_o_bodies : Int32} {x_o_traces : Int32} {r0 : Int32}    : ∀ (n : Nat) (v1 : Int32) (v2 : Int32) (x_o_lamps : Int32) (x_o_at : Int32), f_Mo_lampTo_L2   n v1 v2 x_o_lamps x_o_at = some r0 → GG p l e { frames := 0, cells := 0, slots := 0, locals := 0 } s m args below meth c 3 D A 0 0 (MQ below (cQ D A (some (.int r0)) (fun _ : Unit => [O_Mo a_o x_o_code x_o_lamps x_o_at x_o_night x_o_spent x_o_rest x_o_shy a_o_had a_o_told a_o_barred a_o_cost a_o_last a_o_often x_o_hasBegun x_o_doneMany x_o_undoneMany a_o_changeOf a_o_changeAt a_o_before a_o_behind a_o_tape x_o_taped x_o_here x_o_fault x_o_open x_o_laid a_o_act a_o_with a_o_lineMany a_o_testEnd a_o_lineEnd a_o_facts a_o_pile x_o_hasLaw a_o_way a_o_bestWay x_o_bestMany a_o_wasHad a_o_wasLast x_o_wasAt x_o_wasNight x_o_hasImage x_o_keptLamps x_o_keptAt x_o_keptNight x_o_keptSpent a_o_keptHad a_o_keptTold a_o_keptLast a_o_keptOften x_o_bodies a_o_kind x_o_traces a_o_traced a_o_holds a_o_size a_o_elements a_o_shifted])) args s 0 0 A) 2 [(0, .ref a_o), (1, .int v1), (2, .int v2)] [] [O_Mo a_o x_o_code x_o_lamps x_o_at x_o_night x_o_spent x_o_rest x_o_shy a_o_had a_o_told a_o_barred a_o_cost a_o_last a_o_often x_o_hasBegun x_o_doneMany x_o_undoneMany a_o_changeOf a_o_changeAt a_o_before a_o_behind a_o_tape x_o_taped x_o_here x_o_fault x_o_open x_o_laid a_o_act a_o_with a_o_lineMany a_o_testEnd a_o_lineEnd a_o_facts a_o_pile x_o_hasLaw a_o_way a_o_bestWay x_o_bestMany a_o_wasHad a_o_wasLast x_o_wasAt x_o_wasNight x_o_hasImage x_o_keptLamps x_o_keptAt x_o_keptNight x_o_keptSpent a_o_keptHad a_o_keptTold a_o_keptLast a_o_keptOften x_o_bodies a_o_kind x_o_traces a_o_traced a_o_holds a_o_size a_o_elements a_o_shifted] := by
  intro n
  induction n with
  | zero =>
    intro v1 v2 x_o_lamps x_o_at hf
    cases hf
  | succ n ih =>
    intro v1 v2 x_o_lamps x_o_at hf
    unfold f_Mo_lampTo_L2 at hf
    refine g_iload_n (pc' := 3) C 2 d_Mo_lampTo_2 rfl rfl ?_
    refine g_aload_n (pc' := 4) C 0 d_Mo_lampTo_3 rfl rfl ?_
    refine g_get (pc' := 7) C kf_Mo 1 mw_4_139 d_Mo_lampTo_4 rfl 0 rfl (by decide) rfl ?_
    refine g_icmp_ge (pc' := 10) (tgt := 30) C d_Mo_lampTo_7 rfl rfl (fun h => ?_) (fun h => ?_)
    · replace hf := g_ip h hf
      refine g_iconst (pc' := 31) (v := (-1)) C d_Mo_lampTo_30 rfl rfl ?_
      replace hf := Option.some.inj hf; subst hf
      exact g_iret C d_Mo_lampTo_31 () rfl
    · replace hf := g_in h hf
      refine g_aload_n (pc' := 11) C 0 d_Mo_lampTo_10 rfl rfl ?_
      refine g_get (pc' := 14) C kf_Mo 2 mw_4_140 d_Mo_lampTo_11 rfl 0 rfl (by decide) rfl ?_
      refine g_iconst (pc' := 15) (v := 1) C d_Mo_lampTo_14 rfl rfl ?_
      refine g_iload_n (pc' := 16) C 2 d_Mo_lampTo_15 rfl rfl ?_
      refine g_ishl (pc' := 17) C d_Mo_lampTo_16 rfl ?_
      refine g_ixor (pc' := 18) C d_Mo_lampTo_17 rfl ?_
      refine g_iload_n (pc' := 19) C 1 d_Mo_lampTo_18 rfl rfl ?_
      refine g_icmp_ne (pc' := 22) (tgt := 24) C d_Mo_lampTo_19 rfl rfl (fun h => ?_) (fun h => ?_)
      · replace hf := g_in h hf
        refine g_iinc (pc' := 27) (j := 2) (v := (v2 + 1)) (lv' := [(2, .int (v2 + 1)), (0, .ref a_o), (1, .int v1)]) C d_Mo_lampTo_24 rfl rfl rfl (by decide) rfl ?_
        refine g_goto (tgt := 2) C d_Mo_lampTo_27 rfl ?_
        refine g_lv (lv' := [(0, .ref a_o), (1, .int v1), (2, .int (v2 + 1))]) [1, 2, 0] rfl ?_
        exact ih v1 (v2 + 1) x_o_lamps x_o_at hf
      · replace hf := g_ip h hf
        refine g_iload_n (pc' := 23) C 2 d_Mo_lampTo_22 rfl rfl ?_
        replace hf := Option.some.inj hf; subst hf
        exact g_iret C d_Mo_lampTo_23 () rfl
def f_Mo_lampTo  (p1 : Int32) (x_o_lamps : Int32) (x_o_at : Int32) : Option (Int32) :=
  f_Mo_lampTo_L2  3000 p1 (0 : Int32) x_o_lamps x_o_at
set_option maxRecDepth 20000 in
theorem c_Mo_lampTo {l : Launch} {D : va_G} {dA : Nat → ClassId} {a_o a_o_had a_o_told a_o_barred a_o_cost a_o_last a_o_often a_o_changeOf a_o_changeAt a_o_before a_o_behind a_o_tape a_o_act a_o_with a_o_lineMany a_o_testEnd a_o_lineEnd a_o_facts a_o_pile a_o_way a_o_bestWay a_o_wasHad a_o_wasLast a_o_keptHad a_o_keptTold a_o_keptLast a_o_keptOften a_o_kind a_o_traced a_o_holds a_o_size a_o_elements a_o_shifted : Nat} {x_o_code : Int32} {x_o_night : Int32} {x_o_spent : Int32} {x_o_rest : Int32} {x_o_shy : Int32} {x_o_hasBegun : Bool} {x_o_doneMany : Int32} {x_o_undoneMany : Int32} {x_o_taped : Int32} {x_o_here : Int32} {x_o_fault : Int32} {x_o_open : Int32} {x_o_laid : Int32} {x_o_hasLaw : Bool} {x_o_bestMany : Int32} {x_o_wasAt : Int32} {x_o_wasNight : Int32} {x_o_hasImage : Bool} {x_o_keptLamps : Int32} {x_o_keptAt : Int32} {x_o_keptNight : Int32} {x_o_keptSpent : Int32} {x_o_bodies : Int32} {x_o_traces : Int32} {p1 : Int32} {x_o_lamps : Int32} {x_o_at : Int32} {r0 : Int32}   (hf : f_Mo_lampTo  p1 x_o_lamps x_o_at = some r0) : CT l y_Mo_lampTo prog_13_method_63_code 3 (some .int) { frames := 0, cells := 0, slots := 0, locals := 0 } D dA [.ref a_o, .int p1] [O_Mo a_o x_o_code x_o_lamps x_o_at x_o_night x_o_spent x_o_rest x_o_shy a_o_had a_o_told a_o_barred a_o_cost a_o_last a_o_often x_o_hasBegun x_o_doneMany x_o_undoneMany a_o_changeOf a_o_changeAt a_o_before a_o_behind a_o_tape x_o_taped x_o_here x_o_fault x_o_open x_o_laid a_o_act a_o_with a_o_lineMany a_o_testEnd a_o_lineEnd a_o_facts a_o_pile x_o_hasLaw a_o_way a_o_bestWay x_o_bestMany a_o_wasHad a_o_wasLast x_o_wasAt x_o_wasNight x_o_hasImage x_o_keptLamps x_o_keptAt x_o_keptNight x_o_keptSpent a_o_keptHad a_o_keptTold a_o_keptLast a_o_keptOften x_o_bodies a_o_kind x_o_traces a_o_traced a_o_holds a_o_size a_o_elements a_o_shifted] (some (.int r0)) (fun _ : Unit => [O_Mo a_o x_o_code x_o_lamps x_o_at x_o_night x_o_spent x_o_rest x_o_shy a_o_had a_o_told a_o_barred a_o_cost a_o_last a_o_often x_o_hasBegun x_o_doneMany x_o_undoneMany a_o_changeOf a_o_changeAt a_o_before a_o_behind a_o_tape x_o_taped x_o_here x_o_fault x_o_open x_o_laid a_o_act a_o_with a_o_lineMany a_o_testEnd a_o_lineEnd a_o_facts a_o_pile x_o_hasLaw a_o_way a_o_bestWay x_o_bestMany a_o_wasHad a_o_wasLast x_o_wasAt x_o_wasNight x_o_hasImage x_o_keptLamps x_o_keptAt x_o_keptNight x_o_keptSpent a_o_keptHad a_o_keptTold a_o_keptLast a_o_keptOften x_o_bodies a_o_kind x_o_traces a_o_traced a_o_holds a_o_size a_o_elements a_o_shifted]) := by
  refine ct_intro "OneLampModel" rfl (by decide +kernel) (Nat.le_of_ble_eq_true rfl) [(0, .ref a_o), (1, .int p1)] rfl (fun _ C => ?_)
  unfold f_Mo_lampTo at hf
  refine g_iconst (pc' := 1) (v := 0) C d_Mo_lampTo_0 rfl rfl ?_
  refine g_istore_n (pc' := 2) (lv' := [(2, .int 0), (0, .ref a_o), (1, .int p1)]) C d_Mo_lampTo_1 rfl (by decide) rfl ?_
  refine g_lv (lv' := [(0, .ref a_o), (1, .int p1), (2, .int (0 : Int32))]) [1, 2, 0] rfl ?_
  exact w_Mo_lampTo_L2 (a_o := a_o) (a_o_had := a_o_had) (a_o_told := a_o_told) (a_o_barred := a_o_barred) (a_o_cost := a_o_cost) (a_o_last := a_o_last) (a_o_often := a_o_often) (a_o_changeOf := a_o_changeOf) (a_o_changeAt := a_o_changeAt) (a_o_before := a_o_before) (a_o_behind := a_o_behind) (a_o_tape := a_o_tape) (a_o_act := a_o_act) (a_o_with := a_o_with) (a_o_lineMany := a_o_lineMany) (a_o_testEnd := a_o_testEnd) (a_o_lineEnd := a_o_lineEnd) (a_o_facts := a_o_facts) (a_o_pile := a_o_pile) (a_o_way := a_o_way) (a_o_bestWay := a_o_bestWay) (a_o_wasHad := a_o_wasHad) (a_o_wasLast := a_o_wasLast) (a_o_keptHad := a_o_keptHad) (a_o_keptTold := a_o_keptTold) (a_o_keptLast := a_o_keptLast) (a_o_keptOften := a_o_keptOften) (a_o_kind := a_o_kind) (a_o_traced := a_o_traced) (a_o_holds := a_o_holds) (a_o_size := a_o_size) (a_o_elements := a_o_elements) (a_o_shifted := a_o_shifted) C   3000 p1 (0 : Int32) x_o_lamps x_o_at hf
def y_Mo_goesTo : MethodName := ⟨"OneLampModel", "goesTo", "(IZ)Z"⟩
theorem yy_Mo_goesTo : YV y_Mo_goesTo prog_13_method_64_code 4 (some .boolean) 2 := ⟨mw_6_78, mw_1_12, mw_6_77, tm_s (y := y_Mo_goesTo) (n := 58) (by decide +kernel), by decide +kernel, by decide +kernel, by decide +kernel⟩
theorem d_Mo_goesTo_0 : decode prog_13_method_64_code 0 = .ok (.aload_n 0, 1) := by decide +kernel
theorem d_Mo_goesTo_1 : decode prog_13_method_64_code 1 = .ok (.iload_n 1, 1) := by decide +kernel
theorem d_Mo_goesTo_2 : decode prog_13_method_64_code 2 = .ok (.invokevirtual 142, 3) := by decide +kernel
theorem d_Mo_goesTo_5 : decode prog_13_method_64_code 5 = .ok (.ifCond .eq 12, 3) := by decide +kernel
theorem d_Mo_goesTo_8 : decode prog_13_method_64_code 8 = .ok (.aload_n 0, 1) := by decide +kernel
theorem d_Mo_goesTo_9 : decode prog_13_method_64_code 9 = .ok (.getfield 20, 3) := by decide +kernel
theorem d_Mo_goesTo_12 : decode prog_13_method_64_code 12 = .ok (.iload_n 1, 1) := by decide +kernel
theorem d_Mo_goesTo_13 : decode prog_13_method_64_code 13 = .ok (.baload, 1) := by decide +kernel
theorem d_Mo_goesTo_14 : decode prog_13_method_64_code 14 = .ok (.ifCond .eq 5, 3) := by decide +kernel
theorem d_Mo_goesTo_17 : decode prog_13_method_64_code 17 = .ok (.iconst 0, 1) := by decide +kernel
theorem d_Mo_goesTo_18 : decode prog_13_method_64_code 18 = .ok (.ireturn, 1) := by decide +kernel
theorem d_Mo_goesTo_19 : decode prog_13_method_64_code 19 = .ok (.iload_n 2, 1) := by decide +kernel
theorem d_Mo_goesTo_20 : decode prog_13_method_64_code 20 = .ok (.ifCond .eq 68, 3) := by decide +kernel
theorem d_Mo_goesTo_23 : decode prog_13_method_64_code 23 = .ok (.aload_n 0, 1) := by decide +kernel
theorem d_Mo_goesTo_24 : decode prog_13_method_64_code 24 = .ok (.iload_n 1, 1) := by decide +kernel
theorem d_Mo_goesTo_25 : decode prog_13_method_64_code 25 = .ok (.putfield 125, 3) := by decide +kernel
theorem d_Mo_goesTo_28 : decode prog_13_method_64_code 28 = .ok (.aload_n 0, 1) := by decide +kernel
theorem d_Mo_goesTo_29 : decode prog_13_method_64_code 29 = .ok (.iconst 0, 1) := by decide +kernel
theorem d_Mo_goesTo_30 : decode prog_13_method_64_code 30 = .ok (.putfield 128, 3) := by decide +kernel
theorem d_Mo_goesTo_33 : decode prog_13_method_64_code 33 = .ok (.iconst 0, 1) := by decide +kernel
theorem d_Mo_goesTo_34 : decode prog_13_method_64_code 34 = .ok (.istore_n 3, 1) := by decide +kernel
theorem d_Mo_goesTo_35 : decode prog_13_method_64_code 35 = .ok (.iload_n 3, 1) := by decide +kernel
theorem d_Mo_goesTo_36 : decode prog_13_method_64_code 36 = .ok (.sipush 1024, 3) := by decide +kernel
theorem d_Mo_goesTo_39 : decode prog_13_method_64_code 39 = .ok (.if_icmp .ge 25, 3) := by decide +kernel
theorem d_Mo_goesTo_42 : decode prog_13_method_64_code 42 = .ok (.aload_n 0, 1) := by decide +kernel
theorem d_Mo_goesTo_43 : decode prog_13_method_64_code 43 = .ok (.getfield 13, 3) := by decide +kernel
theorem d_Mo_goesTo_46 : decode prog_13_method_64_code 46 = .ok (.iload_n 3, 1) := by decide +kernel
theorem d_Mo_goesTo_47 : decode prog_13_method_64_code 47 = .ok (.iload_n 3, 1) := by decide +kernel
theorem d_Mo_goesTo_48 : decode prog_13_method_64_code 48 = .ok (.iload_n 1, 1) := by decide +kernel
theorem d_Mo_goesTo_49 : decode prog_13_method_64_code 49 = .ok (.if_icmp .ne 7, 3) := by decide +kernel
theorem d_Mo_goesTo_52 : decode prog_13_method_64_code 52 = .ok (.iconst 1, 1) := by decide +kernel
theorem d_Mo_goesTo_53 : decode prog_13_method_64_code 53 = .ok (.goto 4, 3) := by decide +kernel
theorem d_Mo_goesTo_56 : decode prog_13_method_64_code 56 = .ok (.iconst 0, 1) := by decide +kernel
theorem d_Mo_goesTo_57 : decode prog_13_method_64_code 57 = .ok (.bastore, 1) := by decide +kernel
theorem d_Mo_goesTo_58 : decode prog_13_method_64_code 58 = .ok (.iinc 3 1, 3) := by decide +kernel
theorem d_Mo_goesTo_61 : decode prog_13_method_64_code 61 = .ok (.goto (-26), 3) := by decide +kernel
theorem d_Mo_goesTo_64 : decode prog_13_method_64_code 64 = .ok (.iconst 0, 1) := by decide +kernel
theorem d_Mo_goesTo_65 : decode prog_13_method_64_code 65 = .ok (.istore_n 3, 1) := by decide +kernel
theorem d_Mo_goesTo_66 : decode prog_13_method_64_code 66 = .ok (.iload_n 3, 1) := by decide +kernel
theorem d_Mo_goesTo_67 : decode prog_13_method_64_code 67 = .ok (.bipush 10, 2) := by decide +kernel
theorem d_Mo_goesTo_69 : decode prog_13_method_64_code 69 = .ok (.if_icmp .ge 17, 3) := by decide +kernel
theorem d_Mo_goesTo_72 : decode prog_13_method_64_code 72 = .ok (.aload_n 0, 1) := by decide +kernel
theorem d_Mo_goesTo_73 : decode prog_13_method_64_code 73 = .ok (.getfield 27, 3) := by decide +kernel
theorem d_Mo_goesTo_76 : decode prog_13_method_64_code 76 = .ok (.iload_n 3, 1) := by decide +kernel
theorem d_Mo_goesTo_77 : decode prog_13_method_64_code 77 = .ok (.bipush (-2), 2) := by decide +kernel
theorem d_Mo_goesTo_79 : decode prog_13_method_64_code 79 = .ok (.iastore, 1) := by decide +kernel
theorem d_Mo_goesTo_80 : decode prog_13_method_64_code 80 = .ok (.iinc 3 1, 3) := by decide +kernel
theorem d_Mo_goesTo_83 : decode prog_13_method_64_code 83 = .ok (.goto (-17), 3) := by decide +kernel
theorem d_Mo_goesTo_86 : decode prog_13_method_64_code 86 = .ok (.iconst 1, 1) := by decide +kernel
theorem d_Mo_goesTo_87 : decode prog_13_method_64_code 87 = .ok (.ireturn, 1) := by decide +kernel
theorem d_Mo_goesTo_88 : decode prog_13_method_64_code 88 = .ok (.aload_n 0, 1) := by decide +kernel
theorem d_Mo_goesTo_89 : decode prog_13_method_64_code 89 = .ok (.iload_n 1, 1) := by decide +kernel
theorem d_Mo_goesTo_90 : decode prog_13_method_64_code 90 = .ok (.invokevirtual 299, 3) := by decide +kernel
theorem d_Mo_goesTo_93 : decode prog_13_method_64_code 93 = .ok (.istore_n 3, 1) := by decide +kernel
theorem d_Mo_goesTo_94 : decode prog_13_method_64_code 94 = .ok (.iload_n 3, 1) := by decide +kernel
theorem d_Mo_goesTo_95 : decode prog_13_method_64_code 95 = .ok (.ifCond .lt 11, 3) := by decide +kernel
theorem d_Mo_goesTo_98 : decode prog_13_method_64_code 98 = .ok (.aload_n 0, 1) := by decide +kernel
theorem d_Mo_goesTo_99 : decode prog_13_method_64_code 99 = .ok (.iload_n 3, 1) := by decide +kernel
theorem d_Mo_goesTo_100 : decode prog_13_method_64_code 100 = .ok (.invokevirtual 269, 3) := by decide +kernel
theorem d_Mo_goesTo_103 : decode prog_13_method_64_code 103 = .ok (.ifCond .ne 5, 3) := by decide +kernel
theorem d_Mo_goesTo_106 : decode prog_13_method_64_code 106 = .ok (.iconst 0, 1) := by decide +kernel
theorem d_Mo_goesTo_107 : decode prog_13_method_64_code 107 = .ok (.ireturn, 1) := by decide +kernel
theorem d_Mo_goesTo_108 : decode prog_13_method_64_code 108 = .ok (.aload_n 0, 1) := by decide +kernel
theorem d_Mo_goesTo_109 : decode prog_13_method_64_code 109 = .ok (.iload_n 3, 1) := by decide +kernel
theorem d_Mo_goesTo_110 : decode prog_13_method_64_code 110 = .ok (.invokevirtual 272, 3) := by decide +kernel
theorem d_Mo_goesTo_113 : decode prog_13_method_64_code 113 = .ok (.pop, 1) := by decide +kernel
theorem d_Mo_goesTo_114 : decode prog_13_method_64_code 114 = .ok (.iconst 1, 1) := by decide +kernel
theorem d_Mo_goesTo_115 : decode prog_13_method_64_code 115 = .ok (.ireturn, 1) := by decide +kernel
def f_Mo_goesTo_L57  (k35 : Int32 → Int32 → Int32 → Int32 → (Nat → Int32) → (Nat → Int32) → Option (Bool × Int32 × Int32 × (Nat → Int32) × (Nat → Int32))) (v1 : Int32) (v3 : Int32) (s0 : Bool) (s1 : Int32) (x_o_at : Int32) (x_o_night : Int32) (x_o_had : Nat → Int32) (x_o_last : Nat → Int32) : Option (Bool × Int32 × Int32 × (Nat → Int32) × (Nat → Int32)) :=
  if s1 < 0 ∨ 1024 ≤ Int32.toNatClampNeg s1 then none else
  k35 v1 (v3 + 1) x_o_at x_o_night (upd x_o_had (Int32.toNatClampNeg s1) (vp_nar .boolean (b2i s0))) x_o_last
set_option maxRecDepth 20000 in
theorem w_Mo_goesTo_L57 {p : Program} {l : Launch} {e : Env} {s : State} {m : MethodId} {args : Array Value} {below : List Frame} {meth : Method} {c : Code} {D : va_G} {dA : Nat → ClassId} {A : Nat → Prop} (C : GC p s m args meth c prog_13_method_64_code 4 "OneLampModel" (some .boolean) D dA A) {a_o a_o_had a_o_told a_o_barred a_o_cost a_o_last a_o_often a_o_changeOf a_o_changeAt a_o_before a_o_behind a_o_tape a_o_act a_o_with a_o_lineMany a_o_testEnd a_o_lineEnd a_o_facts a_o_pile a_o_way a_o_bestWay a_o_wasHad a_o_wasLast a_o_keptHad a_o_keptTold a_o_keptLast a_o_keptOften a_o_kind a_o_traced a_o_holds a_o_size a_o_elements a_o_shifted : Nat} {x_o_code : Int32} {x_o_lamps : Int32} {x_o_spent : Int32} {x_o_rest : Int32} {x_o_shy : Int32} {x_o_hasBegun : Bool} {x_o_doneMany : Int32} {x_o_undoneMany : Int32} {x_o_taped : Int32} {x_o_here : Int32} {x_o_fault : Int32} {x_o_open : Int32} {x_o_laid : Int32} {x_o_hasLaw : Bool} {x_o_bestMany : Int32} {x_o_wasAt : Int32} {x_o_wasNight : Int32} {x_o_hasImage : Bool} {x_o_keptLamps : Int32} {x_o_keptAt : Int32} {x_o_keptNight : Int32} {x_o_keptSpent : Int32} {x_o_bodies : Int32} {x_o_traces : Int32} {x_o_barred : Nat → Int32} {r0 : Bool} {o_x_o_at : Int32} {o_x_o_night : Int32} {o_x_o_had : Nat → Int32} {o_x_o_last : Nat → Int32}   (k35 : Int32 → Int32 → Int32 → Int32 → (Nat → Int32) → (Nat → Int32) → Option (Bool × Int32 × Int32 × (Nat → Int32) × (Nat → Int32))) (hk35 : ∀ (v1 : Int32) (v3 : Int32) (x_o_at : Int32) (x_o_night : Int32) (x_o_had : Nat → Int32) (x_o_last : Nat → Int32), k35 v1 v3 x_o_at x_o_night x_o_had x_o_last = some (r0, o_x_o_at, o_x_o_night, o_x_o_had, o_x_o_last) → GG p l e { frames := 2, cells := 0, slots := 0, locals := 44 } s m args below meth c 4 D A 0 0 (MQ below (cQ D A (some (.int (b2i r0))) (fun _ : Unit => [O_Mo a_o x_o_code x_o_lamps o_x_o_at o_x_o_night x_o_spent x_o_rest x_o_shy a_o_had a_o_told a_o_barred a_o_cost a_o_last a_o_often x_o_hasBegun x_o_doneMany x_o_undoneMany a_o_changeOf a_o_changeAt a_o_before a_o_behind a_o_tape x_o_taped x_o_here x_o_fault x_o_open x_o_laid a_o_act a_o_with a_o_lineMany a_o_testEnd a_o_lineEnd a_o_facts a_o_pile x_o_hasLaw a_o_way a_o_bestWay x_o_bestMany a_o_wasHad a_o_wasLast x_o_wasAt x_o_wasNight x_o_hasImage x_o_keptLamps x_o_keptAt x_o_keptNight x_o_keptSpent a_o_keptHad a_o_keptTold a_o_keptLast a_o_keptOften x_o_bodies a_o_kind x_o_traces a_o_traced a_o_holds a_o_size a_o_elements a_o_shifted, A_Z dA a_o_barred 1024 x_o_barred, A_Z dA a_o_had 1024 o_x_o_had, A_I dA a_o_last 10 o_x_o_last])) args s 0 0 A) 35 [(0, .ref a_o), (1, .int v1), (3, .int v3)] [] [O_Mo a_o x_o_code x_o_lamps x_o_at x_o_night x_o_spent x_o_rest x_o_shy a_o_had a_o_told a_o_barred a_o_cost a_o_last a_o_often x_o_hasBegun x_o_doneMany x_o_undoneMany a_o_changeOf a_o_changeAt a_o_before a_o_behind a_o_tape x_o_taped x_o_here x_o_fault x_o_open x_o_laid a_o_act a_o_with a_o_lineMany a_o_testEnd a_o_lineEnd a_o_facts a_o_pile x_o_hasLaw a_o_way a_o_bestWay x_o_bestMany a_o_wasHad a_o_wasLast x_o_wasAt x_o_wasNight x_o_hasImage x_o_keptLamps x_o_keptAt x_o_keptNight x_o_keptSpent a_o_keptHad a_o_keptTold a_o_keptLast a_o_keptOften x_o_bodies a_o_kind x_o_traces a_o_traced a_o_holds a_o_size a_o_elements a_o_shifted, A_Z dA a_o_barred 1024 x_o_barred, A_Z dA a_o_had 1024 x_o_had, A_I dA a_o_last 10 x_o_last]) (v1 : Int32) (v3 : Int32) (s0 : Bool) (s1 : Int32) (x_o_at : Int32) (x_o_night : Int32) (x_o_had : Nat → Int32) (x_o_last : Nat → Int32) (hf : f_Mo_goesTo_L57  k35 v1 v3 s0 s1 x_o_at x_o_night x_o_had x_o_last = some (r0, o_x_o_at, o_x_o_night, o_x_o_had, o_x_o_last)) : GG p l e { frames := 2, cells := 0, slots := 0, locals := 44 } s m args below meth c 4 D A 0 0 (MQ below (cQ D A (some (.int (b2i r0))) (fun _ : Unit => [O_Mo a_o x_o_code x_o_lamps o_x_o_at o_x_o_night x_o_spent x_o_rest x_o_shy a_o_had a_o_told a_o_barred a_o_cost a_o_last a_o_often x_o_hasBegun x_o_doneMany x_o_undoneMany a_o_changeOf a_o_changeAt a_o_before a_o_behind a_o_tape x_o_taped x_o_here x_o_fault x_o_open x_o_laid a_o_act a_o_with a_o_lineMany a_o_testEnd a_o_lineEnd a_o_facts a_o_pile x_o_hasLaw a_o_way a_o_bestWay x_o_bestMany a_o_wasHad a_o_wasLast x_o_wasAt x_o_wasNight x_o_hasImage x_o_keptLamps x_o_keptAt x_o_keptNight x_o_keptSpent a_o_keptHad a_o_keptTold a_o_keptLast a_o_keptOften x_o_bodies a_o_kind x_o_traces a_o_traced a_o_holds a_o_size a_o_elements a_o_shifted, A_Z dA a_o_barred 1024 x_o_barred, A_Z dA a_o_had 1024 o_x_o_had, A_I dA a_o_last 10 o_x_o_last])) args s 0 0 A) 57 [(0, .ref a_o), (1, .int v1), (3, .int v3)] [.int (b2i s0), .int s1, .ref a_o_had] [O_Mo a_o x_o_code x_o_lamps x_o_at x_o_night x_o_spent x_o_rest x_o_shy a_o_had a_o_told a_o_barred a_o_cost a_o_last a_o_often x_o_hasBegun x_o_doneMany x_o_undoneMany a_o_changeOf a_o_changeAt a_o_before a_o_behind a_o_tape x_o_taped x_o_here x_o_fault x_o_open x_o_laid a_o_act a_o_with a_o_lineMany a_o_testEnd a_o_lineEnd a_o_facts a_o_pile x_o_hasLaw a_o_way a_o_bestWay x_o_bestMany a_o_wasHad a_o_wasLast x_o_wasAt x_o_wasNight x_o_hasImage x_o_keptLamps x_o_keptAt x_o_keptNight x_o_keptSpent a_o_keptHad a_o_keptTold a_o_keptLast a_o_keptOften x_o_bodies a_o_kind x_o_traces a_o_traced a_o_holds a_o_size a_o_elements a_o_shifted, A_Z dA a_o_barred 1024 x_o_barred, A_Z dA a_o_had 1024 x_o_had, A_I dA a_o_last 10 x_o_last] := by
  unfold f_Mo_goesTo_L57 at hf
  have hb := g_ck hf
  replace hf := g_in hb hf
  refine g_zast (pc' := 58) (ws' := [O_Mo a_o x_o_code x_o_lamps x_o_at x_o_night x_o_spent x_o_rest x_o_shy a_o_had a_o_told a_o_barred a_o_cost a_o_last a_o_often x_o_hasBegun x_o_doneMany x_o_undoneMany a_o_changeOf a_o_changeAt a_o_before a_o_behind a_o_tape x_o_taped x_o_here x_o_fault x_o_open x_o_laid a_o_act a_o_with a_o_lineMany a_o_testEnd a_o_lineEnd a_o_facts a_o_pile x_o_hasLaw a_o_way a_o_bestWay x_o_bestMany a_o_wasHad a_o_wasLast x_o_wasAt x_o_wasNight x_o_hasImage x_o_keptLamps x_o_keptAt x_o_keptNight x_o_keptSpent a_o_keptHad a_o_keptTold a_o_keptLast a_o_keptOften x_o_bodies a_o_kind x_o_traces a_o_traced a_o_holds a_o_size a_o_elements a_o_shifted, A_Z dA a_o_barred 1024 x_o_barred, A_Z dA a_o_had 1024 (upd x_o_had (Int32.toNatClampNeg s1) (vp_nar .boolean (b2i s0))), A_I dA a_o_last 10 x_o_last]) C d_Mo_goesTo_57 rfl 2 rfl hb rfl ?_
  refine g_iinc (pc' := 61) (j := 2) (v := (v3 + 1)) (lv' := [(3, .int (v3 + 1)), (0, .ref a_o), (1, .int v1)]) C d_Mo_goesTo_58 rfl rfl rfl (by decide) rfl ?_
  refine g_goto (tgt := 35) C d_Mo_goesTo_61 rfl ?_
  refine g_lv (lv' := [(0, .ref a_o), (1, .int v1), (3, .int (v3 + 1))]) [1, 2, 0] rfl ?_
  exact hk35 v1 (v3 + 1) x_o_at x_o_night (upd x_o_had (Int32.toNatClampNeg s1) (vp_nar .boolean (b2i s0))) x_o_last hf
def f_Mo_goesTo_L66   : Nat → Int32 → Int32 → Int32 → (Nat → Int32) → (Nat → Int32) → Option (Bool × Int32 × Int32 × (Nat → Int32) × (Nat → Int32))
  | 0, _, _, _, _, _ => none
  | n + 1, v3, x_o_at, x_o_night, x_o_had, x_o_last =>
    if (10 : Int32) ≤ v3 then
      (some (true, x_o_at, x_o_night, x_o_had, x_o_last))
    else
      (if v3 < 0 ∨ 10 ≤ Int32.toNatClampNeg v3 then none else
      f_Mo_goesTo_L66  n (v3 + 1) x_o_at x_o_night x_o_had (upd x_o_last (Int32.toNatClampNeg v3) (-2 : Int32)))
set_option maxRecDepth 20000 in
theorem w_Mo_goesTo_L66 {p : Program} {l : Launch} {e : Env} {s : State} {m : MethodId} {args : Array Value} {below : List Frame} {meth : Method} {c : Code} {D : va_G} {dA : Nat → ClassId} {A : Nat → Prop} (C : GC p s m args meth c prog_13_method_64_code 4 "OneLampModel" (some .boolean) D dA A) {a_o a_o_had a_o_told a_o_barred a_o_cost a_o_last a_o_often a_o_changeOf a_o_changeAt a_o_before a_o_behind a_o_tape a_o_act a_o_with a_o_lineMany a_o_testEnd a_o_lineEnd a_o_facts a_o_pile a_o_way a_o_bestWay a_o_wasHad a_o_wasLast a_o_keptHad a_o_keptTold a_o_keptLast a_o_keptOften a_o_kind a_o_traced a_o_holds a_o_size a_o_elements a_o_shifted : Nat} {x_o_code : Int32} {x_o_lamps : Int32} {x_o_spent : Int32} {x_o_rest : Int32} {x_o_shy : Int32} {x_o_hasBegun : Bool} {x_o_doneMany : Int32} {x_o_undoneMany : Int32} {x_o_taped : Int32} {x_o_here : Int32} {x_o_fault : Int32} {x_o_open : Int32} {x_o_laid : Int32} {x_o_hasLaw : Bool} {x_o_bestMany : Int32} {x_o_wasAt : Int32} {x_o_wasNight : Int32} {x_o_hasImage : Bool} {x_o_keptLamps : Int32} {x_o_keptAt : Int32} {x_o_keptNight : Int32} {x_o_keptSpent : Int32} {x_o_bodies : Int32} {x_o_traces : Int32} {x_o_barred : Nat → Int32} {r0 : Bool} {o_x_o_at : Int32} {o_x_o_night : Int32} {o_x_o_had : Nat → Int32} {o_x_o_last : Nat → Int32}    : ∀ (n : Nat) (v3 : Int32) (x_o_at : Int32) (x_o_night : Int32) (x_o_had : Nat → Int32) (x_o_last : Nat → Int32), f_Mo_goesTo_L66   n v3 x_o_at x_o_night x_o_had x_o_last = some (r0, o_x_o_at, o_x_o_night, o_x_o_had, o_x_o_last) → GG p l e { frames := 2, cells := 0, slots := 0, locals := 44 } s m args below meth c 4 D A 0 0 (MQ below (cQ D A (some (.int (b2i r0))) (fun _ : Unit => [O_Mo a_o x_o_code x_o_lamps o_x_o_at o_x_o_night x_o_spent x_o_rest x_o_shy a_o_had a_o_told a_o_barred a_o_cost a_o_last a_o_often x_o_hasBegun x_o_doneMany x_o_undoneMany a_o_changeOf a_o_changeAt a_o_before a_o_behind a_o_tape x_o_taped x_o_here x_o_fault x_o_open x_o_laid a_o_act a_o_with a_o_lineMany a_o_testEnd a_o_lineEnd a_o_facts a_o_pile x_o_hasLaw a_o_way a_o_bestWay x_o_bestMany a_o_wasHad a_o_wasLast x_o_wasAt x_o_wasNight x_o_hasImage x_o_keptLamps x_o_keptAt x_o_keptNight x_o_keptSpent a_o_keptHad a_o_keptTold a_o_keptLast a_o_keptOften x_o_bodies a_o_kind x_o_traces a_o_traced a_o_holds a_o_size a_o_elements a_o_shifted, A_Z dA a_o_barred 1024 x_o_barred, A_Z dA a_o_had 1024 o_x_o_had, A_I dA a_o_last 10 o_x_o_last])) args s 0 0 A) 66 [(0, .ref a_o), (3, .int v3)] [] [O_Mo a_o x_o_code x_o_lamps x_o_at x_o_night x_o_spent x_o_rest x_o_shy a_o_had a_o_told a_o_barred a_o_cost a_o_last a_o_often x_o_hasBegun x_o_doneMany x_o_undoneMany a_o_changeOf a_o_changeAt a_o_before a_o_behind a_o_tape x_o_taped x_o_here x_o_fault x_o_open x_o_laid a_o_act a_o_with a_o_lineMany a_o_testEnd a_o_lineEnd a_o_facts a_o_pile x_o_hasLaw a_o_way a_o_bestWay x_o_bestMany a_o_wasHad a_o_wasLast x_o_wasAt x_o_wasNight x_o_hasImage x_o_keptLamps x_o_keptAt x_o_keptNight x_o_keptSpent a_o_keptHad a_o_keptTold a_o_keptLast a_o_keptOften x_o_bodies a_o_kind x_o_traces a_o_traced a_o_holds a_o_size a_o_elements a_o_shifted, A_Z dA a_o_barred 1024 x_o_barred, A_Z dA a_o_had 1024 x_o_had, A_I dA a_o_last 10 x_o_last] := by
  intro n
  induction n with
  | zero =>
    intro v3 x_o_at x_o_night x_o_had x_o_last hf
    cases hf
  | succ n ih =>
    intro v3 x_o_at x_o_night x_o_had x_o_last hf
    unfold f_Mo_goesTo_L66 at hf
    refine g_iload_n (pc' := 67) C 1 d_Mo_goesTo_66 rfl rfl ?_
    refine g_bipush (pc' := 69) (v := 10) C d_Mo_goesTo_67 rfl rfl ?_
    refine g_icmp_ge (pc' := 72) (tgt := 86) C d_Mo_goesTo_69 rfl rfl (fun h => ?_) (fun h => ?_)
    · replace hf := g_ip h hf
      refine g_iconst (pc' := 87) (v := 1) C d_Mo_goesTo_86 rfl rfl ?_
      replace hf := g_o2 hf; obtain ⟨h1, hf⟩ := hf; subst h1
      replace hf := g_o2 hf; obtain ⟨h1, hf⟩ := hf; subst h1
      replace hf := g_o2 hf; obtain ⟨h1, hf⟩ := hf; subst h1
      replace hf := g_o2 hf; obtain ⟨h1, hf⟩ := hf; subst h1
      replace hf := Option.some.inj hf; subst hf
      exact g_zret C d_Mo_goesTo_87 () rfl
    · replace hf := g_in h hf
      refine g_aload_n (pc' := 73) C 0 d_Mo_goesTo_72 rfl rfl ?_
      refine g_get (pc' := 76) C kf_Mo 11 mw_4_149 d_Mo_goesTo_73 rfl 0 rfl (by decide) rfl ?_
      refine g_iload_n (pc' := 77) C 1 d_Mo_goesTo_76 rfl rfl ?_
      refine g_bipush (pc' := 79) (v := (-2)) C d_Mo_goesTo_77 rfl rfl ?_
      have hb := g_ck hf
      replace hf := g_in hb hf
      refine g_iast (pc' := 80) (ws' := [O_Mo a_o x_o_code x_o_lamps x_o_at x_o_night x_o_spent x_o_rest x_o_shy a_o_had a_o_told a_o_barred a_o_cost a_o_last a_o_often x_o_hasBegun x_o_doneMany x_o_undoneMany a_o_changeOf a_o_changeAt a_o_before a_o_behind a_o_tape x_o_taped x_o_here x_o_fault x_o_open x_o_laid a_o_act a_o_with a_o_lineMany a_o_testEnd a_o_lineEnd a_o_facts a_o_pile x_o_hasLaw a_o_way a_o_bestWay x_o_bestMany a_o_wasHad a_o_wasLast x_o_wasAt x_o_wasNight x_o_hasImage x_o_keptLamps x_o_keptAt x_o_keptNight x_o_keptSpent a_o_keptHad a_o_keptTold a_o_keptLast a_o_keptOften x_o_bodies a_o_kind x_o_traces a_o_traced a_o_holds a_o_size a_o_elements a_o_shifted, A_Z dA a_o_barred 1024 x_o_barred, A_Z dA a_o_had 1024 x_o_had, A_I dA a_o_last 10 (upd x_o_last (Int32.toNatClampNeg v3) (-2 : Int32))]) C d_Mo_goesTo_79 rfl 3 rfl hb rfl ?_
      refine g_iinc (pc' := 83) (j := 1) (v := (v3 + 1)) (lv' := [(3, .int (v3 + 1)), (0, .ref a_o)]) C d_Mo_goesTo_80 rfl rfl rfl (by decide) rfl ?_
      refine g_goto (tgt := 66) C d_Mo_goesTo_83 rfl ?_
      refine g_lv (lv' := [(0, .ref a_o), (3, .int (v3 + 1))]) [1, 0] rfl ?_
      exact ih (v3 + 1) x_o_at x_o_night x_o_had (upd x_o_last (Int32.toNatClampNeg v3) (-2 : Int32)) hf
def f_Mo_goesTo_L35   : Nat → Int32 → Int32 → Int32 → Int32 → (Nat → Int32) → (Nat → Int32) → Option (Bool × Int32 × Int32 × (Nat → Int32) × (Nat → Int32))
  | 0, _, _, _, _, _, _ => none
  | n + 1, v1, v3, x_o_at, x_o_night, x_o_had, x_o_last =>
    if (1024 : Int32) ≤ v3 then
      (f_Mo_goesTo_L66  3000 (0 : Int32) x_o_at x_o_night x_o_had x_o_last)
    else
      (if v3 = v1 then
        (f_Mo_goesTo_L57 (f_Mo_goesTo_L35  n) v1 v3 true v3 x_o_at x_o_night x_o_had x_o_last)
      else
        (f_Mo_goesTo_L57 (f_Mo_goesTo_L35  n) v1 v3 false v3 x_o_at x_o_night x_o_had x_o_last))
set_option maxRecDepth 20000 in
theorem w_Mo_goesTo_L35 {p : Program} {l : Launch} {e : Env} {s : State} {m : MethodId} {args : Array Value} {below : List Frame} {meth : Method} {c : Code} {D : va_G} {dA : Nat → ClassId} {A : Nat → Prop} (C : GC p s m args meth c prog_13_method_64_code 4 "OneLampModel" (some .boolean) D dA A) {a_o a_o_had a_o_told a_o_barred a_o_cost a_o_last a_o_often a_o_changeOf a_o_changeAt a_o_before a_o_behind a_o_tape a_o_act a_o_with a_o_lineMany a_o_testEnd a_o_lineEnd a_o_facts a_o_pile a_o_way a_o_bestWay a_o_wasHad a_o_wasLast a_o_keptHad a_o_keptTold a_o_keptLast a_o_keptOften a_o_kind a_o_traced a_o_holds a_o_size a_o_elements a_o_shifted : Nat} {x_o_code : Int32} {x_o_lamps : Int32} {x_o_spent : Int32} {x_o_rest : Int32} {x_o_shy : Int32} {x_o_hasBegun : Bool} {x_o_doneMany : Int32} {x_o_undoneMany : Int32} {x_o_taped : Int32} {x_o_here : Int32} {x_o_fault : Int32} {x_o_open : Int32} {x_o_laid : Int32} {x_o_hasLaw : Bool} {x_o_bestMany : Int32} {x_o_wasAt : Int32} {x_o_wasNight : Int32} {x_o_hasImage : Bool} {x_o_keptLamps : Int32} {x_o_keptAt : Int32} {x_o_keptNight : Int32} {x_o_keptSpent : Int32} {x_o_bodies : Int32} {x_o_traces : Int32} {x_o_barred : Nat → Int32} {r0 : Bool} {o_x_o_at : Int32} {o_x_o_night : Int32} {o_x_o_had : Nat → Int32} {o_x_o_last : Nat → Int32}    : ∀ (n : Nat) (v1 : Int32) (v3 : Int32) (x_o_at : Int32) (x_o_night : Int32) (x_o_had : Nat → Int32) (x_o_last : Nat → Int32), f_Mo_goesTo_L35   n v1 v3 x_o_at x_o_night x_o_had x_o_last = some (r0, o_x_o_at, o_x_o_night, o_x_o_had, o_x_o_last) → GG p l e { frames := 2, cells := 0, slots := 0, locals := 44 } s m args below meth c 4 D A 0 0 (MQ below (cQ D A (some (.int (b2i r0))) (fun _ : Unit => [O_Mo a_o x_o_code x_o_lamps o_x_o_at o_x_o_night x_o_spent x_o_rest x_o_shy a_o_had a_o_told a_o_barred a_o_cost a_o_last a_o_often x_o_hasBegun x_o_doneMany x_o_undoneMany a_o_changeOf a_o_changeAt a_o_before a_o_behind a_o_tape x_o_taped x_o_here x_o_fault x_o_open x_o_laid a_o_act a_o_with a_o_lineMany a_o_testEnd a_o_lineEnd a_o_facts a_o_pile x_o_hasLaw a_o_way a_o_bestWay x_o_bestMany a_o_wasHad a_o_wasLast x_o_wasAt x_o_wasNight x_o_hasImage x_o_keptLamps x_o_keptAt x_o_keptNight x_o_keptSpent a_o_keptHad a_o_keptTold a_o_keptLast a_o_keptOften x_o_bodies a_o_kind x_o_traces a_o_traced a_o_holds a_o_size a_o_elements a_o_shifted, A_Z dA a_o_barred 1024 x_o_barred, A_Z dA a_o_had 1024 o_x_o_had, A_I dA a_o_last 10 o_x_o_last])) args s 0 0 A) 35 [(0, .ref a_o), (1, .int v1), (3, .int v3)] [] [O_Mo a_o x_o_code x_o_lamps x_o_at x_o_night x_o_spent x_o_rest x_o_shy a_o_had a_o_told a_o_barred a_o_cost a_o_last a_o_often x_o_hasBegun x_o_doneMany x_o_undoneMany a_o_changeOf a_o_changeAt a_o_before a_o_behind a_o_tape x_o_taped x_o_here x_o_fault x_o_open x_o_laid a_o_act a_o_with a_o_lineMany a_o_testEnd a_o_lineEnd a_o_facts a_o_pile x_o_hasLaw a_o_way a_o_bestWay x_o_bestMany a_o_wasHad a_o_wasLast x_o_wasAt x_o_wasNight x_o_hasImage x_o_keptLamps x_o_keptAt x_o_keptNight x_o_keptSpent a_o_keptHad a_o_keptTold a_o_keptLast a_o_keptOften x_o_bodies a_o_kind x_o_traces a_o_traced a_o_holds a_o_size a_o_elements a_o_shifted, A_Z dA a_o_barred 1024 x_o_barred, A_Z dA a_o_had 1024 x_o_had, A_I dA a_o_last 10 x_o_last] := by
  intro n
  induction n with
  | zero =>
    intro v1 v3 x_o_at x_o_night x_o_had x_o_last hf
    cases hf
  | succ n ih =>
    intro v1 v3 x_o_at x_o_night x_o_had x_o_last hf
    unfold f_Mo_goesTo_L35 at hf
    refine g_iload_n (pc' := 36) C 2 d_Mo_goesTo_35 rfl rfl ?_
    refine g_sipush (pc' := 39) (v := 1024) C d_Mo_goesTo_36 rfl rfl ?_
    refine g_icmp_ge (pc' := 42) (tgt := 64) C d_Mo_goesTo_39 rfl rfl (fun h => ?_) (fun h => ?_)
    · replace hf := g_ip h hf
      refine g_iconst (pc' := 65) (v := 0) C d_Mo_goesTo_64 rfl rfl ?_
      refine g_istore_n (pc' := 66) (lv' := [(3, .int 0), (0, .ref a_o), (1, .int v1)]) C d_Mo_goesTo_65 rfl (by decide) rfl ?_
      refine g_lv (lv' := [(0, .ref a_o), (3, .int (0 : Int32))]) [1, 0] rfl ?_
      exact w_Mo_goesTo_L66 (a_o := a_o) (a_o_had := a_o_had) (a_o_told := a_o_told) (a_o_barred := a_o_barred) (a_o_cost := a_o_cost) (a_o_last := a_o_last) (a_o_often := a_o_often) (a_o_changeOf := a_o_changeOf) (a_o_changeAt := a_o_changeAt) (a_o_before := a_o_before) (a_o_behind := a_o_behind) (a_o_tape := a_o_tape) (a_o_act := a_o_act) (a_o_with := a_o_with) (a_o_lineMany := a_o_lineMany) (a_o_testEnd := a_o_testEnd) (a_o_lineEnd := a_o_lineEnd) (a_o_facts := a_o_facts) (a_o_pile := a_o_pile) (a_o_way := a_o_way) (a_o_bestWay := a_o_bestWay) (a_o_wasHad := a_o_wasHad) (a_o_wasLast := a_o_wasLast) (a_o_keptHad := a_o_keptHad) (a_o_keptTold := a_o_keptTold) (a_o_keptLast := a_o_keptLast) (a_o_keptOften := a_o_keptOften) (a_o_kind := a_o_kind) (a_o_traced := a_o_traced) (a_o_holds := a_o_holds) (a_o_size := a_o_size) (a_o_elements := a_o_elements) (a_o_shifted := a_o_shifted) C   3000 (0 : Int32) x_o_at x_o_night x_o_had x_o_last hf
    · replace hf := g_in h hf
      refine g_aload_n (pc' := 43) C 0 d_Mo_goesTo_42 rfl rfl ?_
      refine g_get (pc' := 46) C kf_Mo 7 mw_4_145 d_Mo_goesTo_43 rfl 0 rfl (by decide) rfl ?_
      refine g_iload_n (pc' := 47) C 2 d_Mo_goesTo_46 rfl rfl ?_
      refine g_iload_n (pc' := 48) C 2 d_Mo_goesTo_47 rfl rfl ?_
      refine g_iload_n (pc' := 49) C 1 d_Mo_goesTo_48 rfl rfl ?_
      refine g_icmp_ne (pc' := 52) (tgt := 56) C d_Mo_goesTo_49 rfl rfl (fun h => ?_) (fun h => ?_)
      · replace hf := g_in h hf
        refine g_iconst (pc' := 57) (v := 0) C d_Mo_goesTo_56 rfl rfl ?_
        exact w_Mo_goesTo_L57 (a_o := a_o) (a_o_had := a_o_had) (a_o_told := a_o_told) (a_o_barred := a_o_barred) (a_o_cost := a_o_cost) (a_o_last := a_o_last) (a_o_often := a_o_often) (a_o_changeOf := a_o_changeOf) (a_o_changeAt := a_o_changeAt) (a_o_before := a_o_before) (a_o_behind := a_o_behind) (a_o_tape := a_o_tape) (a_o_act := a_o_act) (a_o_with := a_o_with) (a_o_lineMany := a_o_lineMany) (a_o_testEnd := a_o_testEnd) (a_o_lineEnd := a_o_lineEnd) (a_o_facts := a_o_facts) (a_o_pile := a_o_pile) (a_o_way := a_o_way) (a_o_bestWay := a_o_bestWay) (a_o_wasHad := a_o_wasHad) (a_o_wasLast := a_o_wasLast) (a_o_keptHad := a_o_keptHad) (a_o_keptTold := a_o_keptTold) (a_o_keptLast := a_o_keptLast) (a_o_keptOften := a_o_keptOften) (a_o_kind := a_o_kind) (a_o_traced := a_o_traced) (a_o_holds := a_o_holds) (a_o_size := a_o_size) (a_o_elements := a_o_elements) (a_o_shifted := a_o_shifted) C  (f_Mo_goesTo_L35  n) ih v1 v3 false v3 x_o_at x_o_night x_o_had x_o_last hf
      · replace hf := g_ip h hf
        refine g_iconst (pc' := 53) (v := 1) C d_Mo_goesTo_52 rfl rfl ?_
        refine g_goto (tgt := 57) C d_Mo_goesTo_53 rfl ?_
        exact w_Mo_goesTo_L57 (a_o := a_o) (a_o_had := a_o_had) (a_o_told := a_o_told) (a_o_barred := a_o_barred) (a_o_cost := a_o_cost) (a_o_last := a_o_last) (a_o_often := a_o_often) (a_o_changeOf := a_o_changeOf) (a_o_changeAt := a_o_changeAt) (a_o_before := a_o_before) (a_o_behind := a_o_behind) (a_o_tape := a_o_tape) (a_o_act := a_o_act) (a_o_with := a_o_with) (a_o_lineMany := a_o_lineMany) (a_o_testEnd := a_o_testEnd) (a_o_lineEnd := a_o_lineEnd) (a_o_facts := a_o_facts) (a_o_pile := a_o_pile) (a_o_way := a_o_way) (a_o_bestWay := a_o_bestWay) (a_o_wasHad := a_o_wasHad) (a_o_wasLast := a_o_wasLast) (a_o_keptHad := a_o_keptHad) (a_o_keptTold := a_o_keptTold) (a_o_keptLast := a_o_keptLast) (a_o_keptOften := a_o_keptOften) (a_o_kind := a_o_kind) (a_o_traced := a_o_traced) (a_o_holds := a_o_holds) (a_o_size := a_o_size) (a_o_elements := a_o_elements) (a_o_shifted := a_o_shifted) C  (f_Mo_goesTo_L35  n) ih v1 v3 true v3 x_o_at x_o_night x_o_had x_o_last hf
def f_Mo_goesTo  (p1 : Int32) (p2 : Bool) (x_o_lamps : Int32) (x_o_at : Int32) (x_o_night : Int32) (x_o_rest : Int32) (x_o_shy : Int32) (x_o_barred : Nat → Int32) (x_o_had : Nat → Int32) (x_o_last : Nat → Int32) : Option (Bool × Int32 × Int32 × (Nat → Int32) × (Nat → Int32)) :=
  (f_Mo_isPicture  p1 x_o_lamps).bind fun r1 =>
  if r1 = true then
    (if p1 < 0 ∨ 1024 ≤ Int32.toNatClampNeg p1 then none else
    if (x_o_barred (Int32.toNatClampNeg p1)) = 0 then
      (if p2 = true then
        (f_Mo_goesTo_L35  3000 p1 (0 : Int32) p1 (0 : Int32) x_o_had x_o_last)
      else
        ((f_Mo_lampTo  p1 x_o_lamps x_o_at).bind fun r3 =>
        if r3 < 0 then
          (some (false, x_o_at, x_o_night, x_o_had, x_o_last))
        else
          ((f_Mo_mayChange  r3 x_o_lamps x_o_at x_o_night x_o_rest x_o_shy x_o_had x_o_barred x_o_last).bind fun r5 =>
          if r5 = true then
            ((f_Mo_go  r3 x_o_at x_o_night x_o_last x_o_had).bind fun (r7, u8, u9, u10, u11) =>
            some (true, u8, u9, u11, u10))
          else
            (some (false, x_o_at, x_o_night, x_o_had, x_o_last)))))
    else
      (some (false, x_o_at, x_o_night, x_o_had, x_o_last)))
  else
    (some (false, x_o_at, x_o_night, x_o_had, x_o_last))
set_option maxRecDepth 20000 in
theorem c_Mo_goesTo {l : Launch} {D : va_G} {dA : Nat → ClassId} {a_o a_o_had a_o_told a_o_barred a_o_cost a_o_last a_o_often a_o_changeOf a_o_changeAt a_o_before a_o_behind a_o_tape a_o_act a_o_with a_o_lineMany a_o_testEnd a_o_lineEnd a_o_facts a_o_pile a_o_way a_o_bestWay a_o_wasHad a_o_wasLast a_o_keptHad a_o_keptTold a_o_keptLast a_o_keptOften a_o_kind a_o_traced a_o_holds a_o_size a_o_elements a_o_shifted : Nat} {x_o_code : Int32} {x_o_spent : Int32} {x_o_hasBegun : Bool} {x_o_doneMany : Int32} {x_o_undoneMany : Int32} {x_o_taped : Int32} {x_o_here : Int32} {x_o_fault : Int32} {x_o_open : Int32} {x_o_laid : Int32} {x_o_hasLaw : Bool} {x_o_bestMany : Int32} {x_o_wasAt : Int32} {x_o_wasNight : Int32} {x_o_hasImage : Bool} {x_o_keptLamps : Int32} {x_o_keptAt : Int32} {x_o_keptNight : Int32} {x_o_keptSpent : Int32} {x_o_bodies : Int32} {x_o_traces : Int32} {p1 : Int32} {p2 : Bool} {x_o_lamps : Int32} {x_o_at : Int32} {x_o_night : Int32} {x_o_rest : Int32} {x_o_shy : Int32} {x_o_barred : Nat → Int32} {x_o_had : Nat → Int32} {x_o_last : Nat → Int32} {r0 : Bool} {o_x_o_at : Int32} {o_x_o_night : Int32} {o_x_o_had : Nat → Int32} {o_x_o_last : Nat → Int32}   (hf : f_Mo_goesTo  p1 p2 x_o_lamps x_o_at x_o_night x_o_rest x_o_shy x_o_barred x_o_had x_o_last = some (r0, o_x_o_at, o_x_o_night, o_x_o_had, o_x_o_last)) : CT l y_Mo_goesTo prog_13_method_64_code 4 (some .boolean) { frames := 2, cells := 0, slots := 0, locals := 44 } D dA [.ref a_o, .int p1, .int (b2i p2)] [O_Mo a_o x_o_code x_o_lamps x_o_at x_o_night x_o_spent x_o_rest x_o_shy a_o_had a_o_told a_o_barred a_o_cost a_o_last a_o_often x_o_hasBegun x_o_doneMany x_o_undoneMany a_o_changeOf a_o_changeAt a_o_before a_o_behind a_o_tape x_o_taped x_o_here x_o_fault x_o_open x_o_laid a_o_act a_o_with a_o_lineMany a_o_testEnd a_o_lineEnd a_o_facts a_o_pile x_o_hasLaw a_o_way a_o_bestWay x_o_bestMany a_o_wasHad a_o_wasLast x_o_wasAt x_o_wasNight x_o_hasImage x_o_keptLamps x_o_keptAt x_o_keptNight x_o_keptSpent a_o_keptHad a_o_keptTold a_o_keptLast a_o_keptOften x_o_bodies a_o_kind x_o_traces a_o_traced a_o_holds a_o_size a_o_elements a_o_shifted, A_Z dA a_o_barred 1024 x_o_barred, A_Z dA a_o_had 1024 x_o_had, A_I dA a_o_last 10 x_o_last] (some (.int (b2i r0))) (fun _ : Unit => [O_Mo a_o x_o_code x_o_lamps o_x_o_at o_x_o_night x_o_spent x_o_rest x_o_shy a_o_had a_o_told a_o_barred a_o_cost a_o_last a_o_often x_o_hasBegun x_o_doneMany x_o_undoneMany a_o_changeOf a_o_changeAt a_o_before a_o_behind a_o_tape x_o_taped x_o_here x_o_fault x_o_open x_o_laid a_o_act a_o_with a_o_lineMany a_o_testEnd a_o_lineEnd a_o_facts a_o_pile x_o_hasLaw a_o_way a_o_bestWay x_o_bestMany a_o_wasHad a_o_wasLast x_o_wasAt x_o_wasNight x_o_hasImage x_o_keptLamps x_o_keptAt x_o_keptNight x_o_keptSpent a_o_keptHad a_o_keptTold a_o_keptLast a_o_keptOften x_o_bodies a_o_kind x_o_traces a_o_traced a_o_holds a_o_size a_o_elements a_o_shifted, A_Z dA a_o_barred 1024 x_o_barred, A_Z dA a_o_had 1024 o_x_o_had, A_I dA a_o_last 10 o_x_o_last]) := by
  refine ct_intro "OneLampModel" rfl (by decide +kernel) (Nat.le_of_ble_eq_true rfl) [(0, .ref a_o), (1, .int p1), (2, .int (b2i p2))] rfl (fun _ C => ?_)
  unfold f_Mo_goesTo at hf
  refine g_aload_n (pc' := 1) C 0 d_Mo_goesTo_0 rfl rfl ?_
  refine g_iload_n (pc' := 2) C 1 d_Mo_goesTo_1 rfl rfl ?_
  replace hf := g_bi hf; obtain ⟨r1, hc2, hf⟩ := hf
  refine g_callV (pc' := 5) (st1 := [.int (b2i r1)]) (ws1 := [O_Mo a_o x_o_code x_o_lamps x_o_at x_o_night x_o_spent x_o_rest x_o_shy a_o_had a_o_told a_o_barred a_o_cost a_o_last a_o_often x_o_hasBegun x_o_doneMany x_o_undoneMany a_o_changeOf a_o_changeAt a_o_before a_o_behind a_o_tape x_o_taped x_o_here x_o_fault x_o_open x_o_laid a_o_act a_o_with a_o_lineMany a_o_testEnd a_o_lineEnd a_o_facts a_o_pile x_o_hasLaw a_o_way a_o_bestWay x_o_bestMany a_o_wasHad a_o_wasLast x_o_wasAt x_o_wasNight x_o_hasImage x_o_keptLamps x_o_keptAt x_o_keptNight x_o_keptSpent a_o_keptHad a_o_keptTold a_o_keptLast a_o_keptOften x_o_bodies a_o_kind x_o_traces a_o_traced a_o_holds a_o_size a_o_elements a_o_shifted, A_Z dA a_o_barred 1024 x_o_barred, A_Z dA a_o_had 1024 x_o_had, A_I dA a_o_last 10 x_o_last]) C (c_Mo_isPicture (l := l) (D := D) (dA := dA) (a_o := a_o) (a_o_had := a_o_had) (a_o_told := a_o_told) (a_o_barred := a_o_barred) (a_o_cost := a_o_cost) (a_o_last := a_o_last) (a_o_often := a_o_often) (a_o_changeOf := a_o_changeOf) (a_o_changeAt := a_o_changeAt) (a_o_before := a_o_before) (a_o_behind := a_o_behind) (a_o_tape := a_o_tape) (a_o_act := a_o_act) (a_o_with := a_o_with) (a_o_lineMany := a_o_lineMany) (a_o_testEnd := a_o_testEnd) (a_o_lineEnd := a_o_lineEnd) (a_o_facts := a_o_facts) (a_o_pile := a_o_pile) (a_o_way := a_o_way) (a_o_bestWay := a_o_bestWay) (a_o_wasHad := a_o_wasHad) (a_o_wasLast := a_o_wasLast) (a_o_keptHad := a_o_keptHad) (a_o_keptTold := a_o_keptTold) (a_o_keptLast := a_o_keptLast) (a_o_keptOften := a_o_keptOften) (a_o_kind := a_o_kind) (a_o_traced := a_o_traced) (a_o_holds := a_o_holds) (a_o_size := a_o_size) (a_o_elements := a_o_elements) (a_o_shifted := a_o_shifted) (x_o_code := x_o_code) (x_o_at := x_o_at) (x_o_night := x_o_night) (x_o_spent := x_o_spent) (x_o_rest := x_o_rest) (x_o_shy := x_o_shy) (x_o_hasBegun := x_o_hasBegun) (x_o_doneMany := x_o_doneMany) (x_o_undoneMany := x_o_undoneMany) (x_o_taped := x_o_taped) (x_o_here := x_o_here) (x_o_fault := x_o_fault) (x_o_open := x_o_open) (x_o_laid := x_o_laid) (x_o_hasLaw := x_o_hasLaw) (x_o_bestMany := x_o_bestMany) (x_o_wasAt := x_o_wasAt) (x_o_wasNight := x_o_wasNight) (x_o_hasImage := x_o_hasImage) (x_o_keptLamps := x_o_keptLamps) (x_o_keptAt := x_o_keptAt) (x_o_keptNight := x_o_keptNight) (x_o_keptSpent := x_o_keptSpent) (x_o_bodies := x_o_bodies) (x_o_traces := x_o_traces)   hc2) yy_Mo_isPicture kf_Mo rfl mw_5_91 d_Mo_goesTo_2 rfl [] rfl rfl (Nat.le_of_ble_eq_true rfl) ⟨Nat.le_of_ble_eq_true rfl, Nat.le_of_ble_eq_true rfl⟩ rfl rfl (Nat.zero_le _) (Nat.zero_le _) 0 rfl [0] rfl (by decide +kernel) rfl (g_lay_sel _ _ _ _ [(0, true), (1, false), (2, false), (3, false)] (by decide +kernel) rfl (by decide +kernel) rfl rfl) rfl ?_
  refine g_if_eqb (pc' := 8) (tgt := 17) C d_Mo_goesTo_5 rfl rfl (fun h => ?_) (fun h => ?_)
  · replace hf := g_bf h hf
    refine g_iconst (pc' := 18) (v := 0) C d_Mo_goesTo_17 rfl rfl ?_
    replace hf := g_o2 hf; obtain ⟨h1, hf⟩ := hf; subst h1
    replace hf := g_o2 hf; obtain ⟨h1, hf⟩ := hf; subst h1
    replace hf := g_o2 hf; obtain ⟨h1, hf⟩ := hf; subst h1
    replace hf := g_o2 hf; obtain ⟨h1, hf⟩ := hf; subst h1
    replace hf := Option.some.inj hf; subst hf
    exact g_zret C d_Mo_goesTo_18 () rfl
  · replace hf := g_bt h hf
    refine g_aload_n (pc' := 9) C 0 d_Mo_goesTo_8 rfl rfl ?_
    refine g_get (pc' := 12) C kf_Mo 9 mw_4_147 d_Mo_goesTo_9 rfl 0 rfl (by decide) rfl ?_
    refine g_iload_n (pc' := 13) C 1 d_Mo_goesTo_12 rfl rfl ?_
    have hb := g_ck hf
    replace hf := g_in hb hf
    refine g_zald (pc' := 14) C d_Mo_goesTo_13 rfl 1 rfl hb ?_
    refine g_if_eq (pc' := 17) (tgt := 19) C d_Mo_goesTo_14 rfl rfl (fun h => ?_) (fun h => ?_)
    · replace hf := g_ip h hf
      refine g_iload_n (pc' := 20) C 2 d_Mo_goesTo_19 rfl rfl ?_
      refine g_if_eqb (pc' := 23) (tgt := 88) C d_Mo_goesTo_20 rfl rfl (fun h => ?_) (fun h => ?_)
      · replace hf := g_bf h hf
        refine g_aload_n (pc' := 89) C 0 d_Mo_goesTo_88 rfl rfl ?_
        refine g_iload_n (pc' := 90) C 1 d_Mo_goesTo_89 rfl rfl ?_
        replace hf := g_bi hf; obtain ⟨r3, hc4, hf⟩ := hf
        refine g_callV (pc' := 93) (st1 := [.int r3]) (ws1 := [O_Mo a_o x_o_code x_o_lamps x_o_at x_o_night x_o_spent x_o_rest x_o_shy a_o_had a_o_told a_o_barred a_o_cost a_o_last a_o_often x_o_hasBegun x_o_doneMany x_o_undoneMany a_o_changeOf a_o_changeAt a_o_before a_o_behind a_o_tape x_o_taped x_o_here x_o_fault x_o_open x_o_laid a_o_act a_o_with a_o_lineMany a_o_testEnd a_o_lineEnd a_o_facts a_o_pile x_o_hasLaw a_o_way a_o_bestWay x_o_bestMany a_o_wasHad a_o_wasLast x_o_wasAt x_o_wasNight x_o_hasImage x_o_keptLamps x_o_keptAt x_o_keptNight x_o_keptSpent a_o_keptHad a_o_keptTold a_o_keptLast a_o_keptOften x_o_bodies a_o_kind x_o_traces a_o_traced a_o_holds a_o_size a_o_elements a_o_shifted, A_Z dA a_o_barred 1024 x_o_barred, A_Z dA a_o_had 1024 x_o_had, A_I dA a_o_last 10 x_o_last]) C (c_Mo_lampTo (l := l) (D := D) (dA := dA) (a_o := a_o) (a_o_had := a_o_had) (a_o_told := a_o_told) (a_o_barred := a_o_barred) (a_o_cost := a_o_cost) (a_o_last := a_o_last) (a_o_often := a_o_often) (a_o_changeOf := a_o_changeOf) (a_o_changeAt := a_o_changeAt) (a_o_before := a_o_before) (a_o_behind := a_o_behind) (a_o_tape := a_o_tape) (a_o_act := a_o_act) (a_o_with := a_o_with) (a_o_lineMany := a_o_lineMany) (a_o_testEnd := a_o_testEnd) (a_o_lineEnd := a_o_lineEnd) (a_o_facts := a_o_facts) (a_o_pile := a_o_pile) (a_o_way := a_o_way) (a_o_bestWay := a_o_bestWay) (a_o_wasHad := a_o_wasHad) (a_o_wasLast := a_o_wasLast) (a_o_keptHad := a_o_keptHad) (a_o_keptTold := a_o_keptTold) (a_o_keptLast := a_o_keptLast) (a_o_keptOften := a_o_keptOften) (a_o_kind := a_o_kind) (a_o_traced := a_o_traced) (a_o_holds := a_o_holds) (a_o_size := a_o_size) (a_o_elements := a_o_elements) (a_o_shifted := a_o_shifted) (x_o_code := x_o_code) (x_o_night := x_o_night) (x_o_spent := x_o_spent) (x_o_rest := x_o_rest) (x_o_shy := x_o_shy) (x_o_hasBegun := x_o_hasBegun) (x_o_doneMany := x_o_doneMany) (x_o_undoneMany := x_o_undoneMany) (x_o_taped := x_o_taped) (x_o_here := x_o_here) (x_o_fault := x_o_fault) (x_o_open := x_o_open) (x_o_laid := x_o_laid) (x_o_hasLaw := x_o_hasLaw) (x_o_bestMany := x_o_bestMany) (x_o_wasAt := x_o_wasAt) (x_o_wasNight := x_o_wasNight) (x_o_hasImage := x_o_hasImage) (x_o_keptLamps := x_o_keptLamps) (x_o_keptAt := x_o_keptAt) (x_o_keptNight := x_o_keptNight) (x_o_keptSpent := x_o_keptSpent) (x_o_bodies := x_o_bodies) (x_o_traces := x_o_traces)   hc4) yy_Mo_lampTo kf_Mo rfl mw_6_79 d_Mo_goesTo_90 rfl [] rfl rfl (Nat.le_of_ble_eq_true rfl) ⟨Nat.le_of_ble_eq_true rfl, Nat.le_of_ble_eq_true rfl⟩ rfl rfl (Nat.zero_le _) (Nat.zero_le _) 0 rfl [0] rfl (by decide +kernel) rfl (g_lay_sel _ _ _ _ [(0, true), (1, false), (2, false), (3, false)] (by decide +kernel) rfl (by decide +kernel) rfl rfl) rfl ?_
        refine g_istore_n (pc' := 94) (lv' := [(3, .int r3), (0, .ref a_o), (1, .int p1), (2, .int (b2i p2))]) C d_Mo_goesTo_93 rfl (by decide) rfl ?_
        refine g_iload_n (pc' := 95) C 0 d_Mo_goesTo_94 rfl rfl ?_
        refine g_if_lt (pc' := 98) (tgt := 106) C d_Mo_goesTo_95 rfl rfl (fun h => ?_) (fun h => ?_)
        · replace hf := g_ip h hf
          refine g_iconst (pc' := 107) (v := 0) C d_Mo_goesTo_106 rfl rfl ?_
          replace hf := g_o2 hf; obtain ⟨h1, hf⟩ := hf; subst h1
          replace hf := g_o2 hf; obtain ⟨h1, hf⟩ := hf; subst h1
          replace hf := g_o2 hf; obtain ⟨h1, hf⟩ := hf; subst h1
          replace hf := g_o2 hf; obtain ⟨h1, hf⟩ := hf; subst h1
          replace hf := Option.some.inj hf; subst hf
          exact g_zret C d_Mo_goesTo_107 () rfl
        · replace hf := g_in h hf
          refine g_aload_n (pc' := 99) C 1 d_Mo_goesTo_98 rfl rfl ?_
          refine g_iload_n (pc' := 100) C 0 d_Mo_goesTo_99 rfl rfl ?_
          replace hf := g_bi hf; obtain ⟨r5, hc6, hf⟩ := hf
          refine g_callV (pc' := 103) (st1 := [.int (b2i r5)]) (ws1 := [O_Mo a_o x_o_code x_o_lamps x_o_at x_o_night x_o_spent x_o_rest x_o_shy a_o_had a_o_told a_o_barred a_o_cost a_o_last a_o_often x_o_hasBegun x_o_doneMany x_o_undoneMany a_o_changeOf a_o_changeAt a_o_before a_o_behind a_o_tape x_o_taped x_o_here x_o_fault x_o_open x_o_laid a_o_act a_o_with a_o_lineMany a_o_testEnd a_o_lineEnd a_o_facts a_o_pile x_o_hasLaw a_o_way a_o_bestWay x_o_bestMany a_o_wasHad a_o_wasLast x_o_wasAt x_o_wasNight x_o_hasImage x_o_keptLamps x_o_keptAt x_o_keptNight x_o_keptSpent a_o_keptHad a_o_keptTold a_o_keptLast a_o_keptOften x_o_bodies a_o_kind x_o_traces a_o_traced a_o_holds a_o_size a_o_elements a_o_shifted, A_Z dA a_o_barred 1024 x_o_barred, A_Z dA a_o_had 1024 x_o_had, A_I dA a_o_last 10 x_o_last]) C (c_Mo_mayChange (l := l) (D := D) (dA := dA) (a_o := a_o) (a_o_had := a_o_had) (a_o_told := a_o_told) (a_o_barred := a_o_barred) (a_o_cost := a_o_cost) (a_o_last := a_o_last) (a_o_often := a_o_often) (a_o_changeOf := a_o_changeOf) (a_o_changeAt := a_o_changeAt) (a_o_before := a_o_before) (a_o_behind := a_o_behind) (a_o_tape := a_o_tape) (a_o_act := a_o_act) (a_o_with := a_o_with) (a_o_lineMany := a_o_lineMany) (a_o_testEnd := a_o_testEnd) (a_o_lineEnd := a_o_lineEnd) (a_o_facts := a_o_facts) (a_o_pile := a_o_pile) (a_o_way := a_o_way) (a_o_bestWay := a_o_bestWay) (a_o_wasHad := a_o_wasHad) (a_o_wasLast := a_o_wasLast) (a_o_keptHad := a_o_keptHad) (a_o_keptTold := a_o_keptTold) (a_o_keptLast := a_o_keptLast) (a_o_keptOften := a_o_keptOften) (a_o_kind := a_o_kind) (a_o_traced := a_o_traced) (a_o_holds := a_o_holds) (a_o_size := a_o_size) (a_o_elements := a_o_elements) (a_o_shifted := a_o_shifted) (x_o_code := x_o_code) (x_o_spent := x_o_spent) (x_o_hasBegun := x_o_hasBegun) (x_o_doneMany := x_o_doneMany) (x_o_undoneMany := x_o_undoneMany) (x_o_taped := x_o_taped) (x_o_here := x_o_here) (x_o_fault := x_o_fault) (x_o_open := x_o_open) (x_o_laid := x_o_laid) (x_o_hasLaw := x_o_hasLaw) (x_o_bestMany := x_o_bestMany) (x_o_wasAt := x_o_wasAt) (x_o_wasNight := x_o_wasNight) (x_o_hasImage := x_o_hasImage) (x_o_keptLamps := x_o_keptLamps) (x_o_keptAt := x_o_keptAt) (x_o_keptNight := x_o_keptNight) (x_o_keptSpent := x_o_keptSpent) (x_o_bodies := x_o_bodies) (x_o_traces := x_o_traces)   hc6) yy_Mo_mayChange kf_Mo rfl mw_6_15 d_Mo_goesTo_100 rfl [] rfl rfl (Nat.le_of_ble_eq_true rfl) ⟨Nat.le_of_ble_eq_true rfl, Nat.le_of_ble_eq_true rfl⟩ rfl rfl (Nat.zero_le _) (Nat.zero_le _) 0 rfl [0, 2, 1, 3] rfl (by decide +kernel) rfl (g_lay_sel _ _ _ _ [(0, true), (2, true), (1, true), (3, true)] (by decide +kernel) rfl (by decide +kernel) rfl rfl) rfl ?_
          refine g_if_neb (pc' := 106) (tgt := 108) C d_Mo_goesTo_103 rfl rfl (fun h => ?_) (fun h => ?_)
          · replace hf := g_bt h hf
            refine g_aload_n (pc' := 109) C 1 d_Mo_goesTo_108 rfl rfl ?_
            refine g_iload_n (pc' := 110) C 0 d_Mo_goesTo_109 rfl rfl ?_
            replace hf := g_bi hf; obtain ⟨⟨r7, u8, u9, u10, u11⟩, hc12, hf⟩ := hf
            dsimp only at hf
            refine g_callV (pc' := 113) (st1 := [.int r7]) (ws1 := [O_Mo a_o x_o_code x_o_lamps u8 u9 x_o_spent x_o_rest x_o_shy a_o_had a_o_told a_o_barred a_o_cost a_o_last a_o_often x_o_hasBegun x_o_doneMany x_o_undoneMany a_o_changeOf a_o_changeAt a_o_before a_o_behind a_o_tape x_o_taped x_o_here x_o_fault x_o_open x_o_laid a_o_act a_o_with a_o_lineMany a_o_testEnd a_o_lineEnd a_o_facts a_o_pile x_o_hasLaw a_o_way a_o_bestWay x_o_bestMany a_o_wasHad a_o_wasLast x_o_wasAt x_o_wasNight x_o_hasImage x_o_keptLamps x_o_keptAt x_o_keptNight x_o_keptSpent a_o_keptHad a_o_keptTold a_o_keptLast a_o_keptOften x_o_bodies a_o_kind x_o_traces a_o_traced a_o_holds a_o_size a_o_elements a_o_shifted, A_Z dA a_o_barred 1024 x_o_barred, A_Z dA a_o_had 1024 u11, A_I dA a_o_last 10 u10]) C (c_Mo_go (l := l) (D := D) (dA := dA) (a_o := a_o) (a_o_had := a_o_had) (a_o_told := a_o_told) (a_o_barred := a_o_barred) (a_o_cost := a_o_cost) (a_o_last := a_o_last) (a_o_often := a_o_often) (a_o_changeOf := a_o_changeOf) (a_o_changeAt := a_o_changeAt) (a_o_before := a_o_before) (a_o_behind := a_o_behind) (a_o_tape := a_o_tape) (a_o_act := a_o_act) (a_o_with := a_o_with) (a_o_lineMany := a_o_lineMany) (a_o_testEnd := a_o_testEnd) (a_o_lineEnd := a_o_lineEnd) (a_o_facts := a_o_facts) (a_o_pile := a_o_pile) (a_o_way := a_o_way) (a_o_bestWay := a_o_bestWay) (a_o_wasHad := a_o_wasHad) (a_o_wasLast := a_o_wasLast) (a_o_keptHad := a_o_keptHad) (a_o_keptTold := a_o_keptTold) (a_o_keptLast := a_o_keptLast) (a_o_keptOften := a_o_keptOften) (a_o_kind := a_o_kind) (a_o_traced := a_o_traced) (a_o_holds := a_o_holds) (a_o_size := a_o_size) (a_o_elements := a_o_elements) (a_o_shifted := a_o_shifted) (x_o_code := x_o_code) (x_o_lamps := x_o_lamps) (x_o_spent := x_o_spent) (x_o_rest := x_o_rest) (x_o_shy := x_o_shy) (x_o_hasBegun := x_o_hasBegun) (x_o_doneMany := x_o_doneMany) (x_o_undoneMany := x_o_undoneMany) (x_o_taped := x_o_taped) (x_o_here := x_o_here) (x_o_fault := x_o_fault) (x_o_open := x_o_open) (x_o_laid := x_o_laid) (x_o_hasLaw := x_o_hasLaw) (x_o_bestMany := x_o_bestMany) (x_o_wasAt := x_o_wasAt) (x_o_wasNight := x_o_wasNight) (x_o_hasImage := x_o_hasImage) (x_o_keptLamps := x_o_keptLamps) (x_o_keptAt := x_o_keptAt) (x_o_keptNight := x_o_keptNight) (x_o_keptSpent := x_o_keptSpent) (x_o_bodies := x_o_bodies) (x_o_traces := x_o_traces)   hc12) yy_Mo_go kf_Mo rfl mw_6_27 d_Mo_goesTo_110 rfl [] rfl rfl (Nat.le_of_ble_eq_true rfl) ⟨Nat.le_of_ble_eq_true rfl, Nat.le_of_ble_eq_true rfl⟩ rfl rfl (Nat.zero_le _) (Nat.zero_le _) 0 rfl [0, 3, 2] rfl (by decide +kernel) rfl (g_lay_sel _ _ _ _ [(0, true), (1, false), (2, true), (1, true)] (by decide +kernel) rfl (by decide +kernel) rfl rfl) rfl ?_
            refine g_pop (pc' := 114) C d_Mo_goesTo_113 rfl rfl ?_
            refine g_iconst (pc' := 115) (v := 1) C d_Mo_goesTo_114 rfl rfl ?_
            replace hf := g_o2 hf; obtain ⟨h1, hf⟩ := hf; subst h1
            replace hf := g_o2 hf; obtain ⟨h1, hf⟩ := hf; subst h1
            replace hf := g_o2 hf; obtain ⟨h1, hf⟩ := hf; subst h1
            replace hf := g_o2 hf; obtain ⟨h1, hf⟩ := hf; subst h1
            replace hf := Option.some.inj hf; subst hf
            exact g_zret C d_Mo_goesTo_115 () rfl
          · replace hf := g_bf h hf
            refine g_iconst (pc' := 107) (v := 0) C d_Mo_goesTo_106 rfl rfl ?_
            replace hf := g_o2 hf; obtain ⟨h1, hf⟩ := hf; subst h1
            replace hf := g_o2 hf; obtain ⟨h1, hf⟩ := hf; subst h1
            replace hf := g_o2 hf; obtain ⟨h1, hf⟩ := hf; subst h1
            replace hf := g_o2 hf; obtain ⟨h1, hf⟩ := hf; subst h1
            replace hf := Option.some.inj hf; subst hf
            exact g_zret C d_Mo_goesTo_107 () rfl
      · replace hf := g_bt h hf
        refine g_aload_n (pc' := 24) C 0 d_Mo_goesTo_23 rfl rfl ?_
        refine g_iload_n (pc' := 25) C 1 d_Mo_goesTo_24 rfl rfl ?_
        refine g_put (pc' := 28) (ws' := [O_Mo a_o x_o_code x_o_lamps p1 x_o_night x_o_spent x_o_rest x_o_shy a_o_had a_o_told a_o_barred a_o_cost a_o_last a_o_often x_o_hasBegun x_o_doneMany x_o_undoneMany a_o_changeOf a_o_changeAt a_o_before a_o_behind a_o_tape x_o_taped x_o_here x_o_fault x_o_open x_o_laid a_o_act a_o_with a_o_lineMany a_o_testEnd a_o_lineEnd a_o_facts a_o_pile x_o_hasLaw a_o_way a_o_bestWay x_o_bestMany a_o_wasHad a_o_wasLast x_o_wasAt x_o_wasNight x_o_hasImage x_o_keptLamps x_o_keptAt x_o_keptNight x_o_keptSpent a_o_keptHad a_o_keptTold a_o_keptLast a_o_keptOften x_o_bodies a_o_kind x_o_traces a_o_traced a_o_holds a_o_size a_o_elements a_o_shifted, A_Z dA a_o_barred 1024 x_o_barred, A_Z dA a_o_had 1024 x_o_had, A_I dA a_o_last 10 x_o_last]) C kf_Mo 2 mw_4_140 d_Mo_goesTo_25 rfl 0 rfl (by decide) rfl rfl rfl (Nat.le_of_ble_eq_true rfl) rfl ?_
        refine g_aload_n (pc' := 29) C 0 d_Mo_goesTo_28 rfl rfl ?_
        refine g_iconst (pc' := 30) (v := 0) C d_Mo_goesTo_29 rfl rfl ?_
        refine g_put (pc' := 33) (ws' := [O_Mo a_o x_o_code x_o_lamps p1 (0 : Int32) x_o_spent x_o_rest x_o_shy a_o_had a_o_told a_o_barred a_o_cost a_o_last a_o_often x_o_hasBegun x_o_doneMany x_o_undoneMany a_o_changeOf a_o_changeAt a_o_before a_o_behind a_o_tape x_o_taped x_o_here x_o_fault x_o_open x_o_laid a_o_act a_o_with a_o_lineMany a_o_testEnd a_o_lineEnd a_o_facts a_o_pile x_o_hasLaw a_o_way a_o_bestWay x_o_bestMany a_o_wasHad a_o_wasLast x_o_wasAt x_o_wasNight x_o_hasImage x_o_keptLamps x_o_keptAt x_o_keptNight x_o_keptSpent a_o_keptHad a_o_keptTold a_o_keptLast a_o_keptOften x_o_bodies a_o_kind x_o_traces a_o_traced a_o_holds a_o_size a_o_elements a_o_shifted, A_Z dA a_o_barred 1024 x_o_barred, A_Z dA a_o_had 1024 x_o_had, A_I dA a_o_last 10 x_o_last]) C kf_Mo 3 mw_4_141 d_Mo_goesTo_30 rfl 0 rfl (by decide) rfl rfl rfl (Nat.le_of_ble_eq_true rfl) rfl ?_
        refine g_iconst (pc' := 34) (v := 0) C d_Mo_goesTo_33 rfl rfl ?_
        refine g_istore_n (pc' := 35) (lv' := [(3, .int 0), (0, .ref a_o), (1, .int p1), (2, .int (b2i p2))]) C d_Mo_goesTo_34 rfl (by decide) rfl ?_
        refine g_lv (lv' := [(0, .ref a_o), (1, .int p1), (3, .int (0 : Int32))]) [1, 2, 0] rfl ?_
        exact w_Mo_goesTo_L35 (a_o := a_o) (a_o_had := a_o_had) (a_o_told := a_o_told) (a_o_barred := a_o_barred) (a_o_cost := a_o_cost) (a_o_last := a_o_last) (a_o_often := a_o_often) (a_o_changeOf := a_o_changeOf) (a_o_changeAt := a_o_changeAt) (a_o_before := a_o_before) (a_o_behind := a_o_behind) (a_o_tape := a_o_tape) (a_o_act := a_o_act) (a_o_with := a_o_with) (a_o_lineMany := a_o_lineMany) (a_o_testEnd := a_o_testEnd) (a_o_lineEnd := a_o_lineEnd) (a_o_facts := a_o_facts) (a_o_pile := a_o_pile) (a_o_way := a_o_way) (a_o_bestWay := a_o_bestWay) (a_o_wasHad := a_o_wasHad) (a_o_wasLast := a_o_wasLast) (a_o_keptHad := a_o_keptHad) (a_o_keptTold := a_o_keptTold) (a_o_keptLast := a_o_keptLast) (a_o_keptOften := a_o_keptOften) (a_o_kind := a_o_kind) (a_o_traced := a_o_traced) (a_o_holds := a_o_holds) (a_o_size := a_o_size) (a_o_elements := a_o_elements) (a_o_shifted := a_o_shifted) C   3000 p1 (0 : Int32) p1 (0 : Int32) x_o_had x_o_last hf
    · replace hf := g_in h hf
      refine g_iconst (pc' := 18) (v := 0) C d_Mo_goesTo_17 rfl rfl ?_
      replace hf := g_o2 hf; obtain ⟨h1, hf⟩ := hf; subst h1
      replace hf := g_o2 hf; obtain ⟨h1, hf⟩ := hf; subst h1
      replace hf := g_o2 hf; obtain ⟨h1, hf⟩ := hf; subst h1
      replace hf := g_o2 hf; obtain ⟨h1, hf⟩ := hf; subst h1
      replace hf := Option.some.inj hf; subst hf
      exact g_zret C d_Mo_goesTo_18 () rfl
def y_Mo_judge : MethodName := ⟨"OneLampModel", "judge", "(I)I"⟩
theorem yy_Mo_judge : YV y_Mo_judge prog_13_method_65_code 4 (some .int) 1 := ⟨mw_6_70, mw_1_12, mw_6_68, mw_6_69, by decide +kernel, by decide +kernel, by decide +kernel⟩
theorem d_Mo_judge_0 : decode prog_13_method_65_code 0 = .ok (.aload_n 0, 1) := by decide +kernel
theorem d_Mo_judge_1 : decode prog_13_method_65_code 1 = .ok (.invokevirtual 173, 3) := by decide +kernel
theorem d_Mo_judge_4 : decode prog_13_method_65_code 4 = .ok (.iload_n 1, 1) := by decide +kernel
theorem d_Mo_judge_5 : decode prog_13_method_65_code 5 = .ok (.invokestatic 146, 3) := by decide +kernel
theorem d_Mo_judge_8 : decode prog_13_method_65_code 8 = .ok (.ifCond .ne 5, 3) := by decide +kernel
theorem d_Mo_judge_11 : decode prog_13_method_65_code 11 = .ok (.iconst (-1), 1) := by decide +kernel
theorem d_Mo_judge_12 : decode prog_13_method_65_code 12 = .ok (.ireturn, 1) := by decide +kernel
theorem d_Mo_judge_13 : decode prog_13_method_65_code 13 = .ok (.aload_n 0, 1) := by decide +kernel
theorem d_Mo_judge_14 : decode prog_13_method_65_code 14 = .ok (.getfield 101, 3) := by decide +kernel
theorem d_Mo_judge_17 : decode prog_13_method_65_code 17 = .ok (.iload_n 1, 1) := by decide +kernel
theorem d_Mo_judge_18 : decode prog_13_method_65_code 18 = .ok (.iaload, 1) := by decide +kernel
theorem d_Mo_judge_19 : decode prog_13_method_65_code 19 = .ok (.iconst (-1), 1) := by decide +kernel
theorem d_Mo_judge_20 : decode prog_13_method_65_code 20 = .ok (.if_icmp .ne 6, 3) := by decide +kernel
theorem d_Mo_judge_23 : decode prog_13_method_65_code 23 = .ok (.bipush (-11), 2) := by decide +kernel
theorem d_Mo_judge_25 : decode prog_13_method_65_code 25 = .ok (.ireturn, 1) := by decide +kernel
theorem d_Mo_judge_26 : decode prog_13_method_65_code 26 = .ok (.aload_n 0, 1) := by decide +kernel
theorem d_Mo_judge_27 : decode prog_13_method_65_code 27 = .ok (.getfield 101, 3) := by decide +kernel
theorem d_Mo_judge_30 : decode prog_13_method_65_code 30 = .ok (.iload_n 1, 1) := by decide +kernel
theorem d_Mo_judge_31 : decode prog_13_method_65_code 31 = .ok (.iaload, 1) := by decide +kernel
theorem d_Mo_judge_32 : decode prog_13_method_65_code 32 = .ok (.bipush (-3), 2) := by decide +kernel
theorem d_Mo_judge_34 : decode prog_13_method_65_code 34 = .ok (.if_icmp .eq 6, 3) := by decide +kernel
theorem d_Mo_judge_37 : decode prog_13_method_65_code 37 = .ok (.bipush (-12), 2) := by decide +kernel
theorem d_Mo_judge_39 : decode prog_13_method_65_code 39 = .ok (.ireturn, 1) := by decide +kernel
theorem d_Mo_judge_40 : decode prog_13_method_65_code 40 = .ok (.aload_n 0, 1) := by decide +kernel
theorem d_Mo_judge_41 : decode prog_13_method_65_code 41 = .ok (.invokevirtual 266, 3) := by decide +kernel
theorem d_Mo_judge_44 : decode prog_13_method_65_code 44 = .ok (.aload_n 0, 1) := by decide +kernel
theorem d_Mo_judge_45 : decode prog_13_method_65_code 45 = .ok (.invokevirtual 302, 3) := by decide +kernel
theorem d_Mo_judge_48 : decode prog_13_method_65_code 48 = .ok (.bipush (-2), 2) := by decide +kernel
theorem d_Mo_judge_50 : decode prog_13_method_65_code 50 = .ok (.istore_n 2, 1) := by decide +kernel
theorem d_Mo_judge_51 : decode prog_13_method_65_code 51 = .ok (.iconst 0, 1) := by decide +kernel
theorem d_Mo_judge_52 : decode prog_13_method_65_code 52 = .ok (.istore_n 3, 1) := by decide +kernel
theorem d_Mo_judge_53 : decode prog_13_method_65_code 53 = .ok (.iload_n 3, 1) := by decide +kernel
theorem d_Mo_judge_54 : decode prog_13_method_65_code 54 = .ok (.aload_n 0, 1) := by decide +kernel
theorem d_Mo_judge_55 : decode prog_13_method_65_code 55 = .ok (.getfield 104, 3) := by decide +kernel
theorem d_Mo_judge_58 : decode prog_13_method_65_code 58 = .ok (.iload_n 1, 1) := by decide +kernel
theorem d_Mo_judge_59 : decode prog_13_method_65_code 59 = .ok (.iaload, 1) := by decide +kernel
theorem d_Mo_judge_60 : decode prog_13_method_65_code 60 = .ok (.if_icmp .ge 43, 3) := by decide +kernel
theorem d_Mo_judge_63 : decode prog_13_method_65_code 63 = .ok (.iload_n 2, 1) := by decide +kernel
theorem d_Mo_judge_64 : decode prog_13_method_65_code 64 = .ok (.ifCond .ge 39, 3) := by decide +kernel
theorem d_Mo_judge_67 : decode prog_13_method_65_code 67 = .ok (.aload_n 0, 1) := by decide +kernel
theorem d_Mo_judge_68 : decode prog_13_method_65_code 68 = .ok (.aload_n 0, 1) := by decide +kernel
theorem d_Mo_judge_69 : decode prog_13_method_65_code 69 = .ok (.getfield 107, 3) := by decide +kernel
theorem d_Mo_judge_72 : decode prog_13_method_65_code 72 = .ok (.bipush 60, 2) := by decide +kernel
theorem d_Mo_judge_74 : decode prog_13_method_65_code 74 = .ok (.iload_n 1, 1) := by decide +kernel
theorem d_Mo_judge_75 : decode prog_13_method_65_code 75 = .ok (.imul, 1) := by decide +kernel
theorem d_Mo_judge_76 : decode prog_13_method_65_code 76 = .ok (.iload_n 3, 1) := by decide +kernel
theorem d_Mo_judge_77 : decode prog_13_method_65_code 77 = .ok (.iadd, 1) := by decide +kernel
theorem d_Mo_judge_78 : decode prog_13_method_65_code 78 = .ok (.laload, 1) := by decide +kernel
theorem d_Mo_judge_79 : decode prog_13_method_65_code 79 = .ok (.l2i, 1) := by decide +kernel
theorem d_Mo_judge_80 : decode prog_13_method_65_code 80 = .ok (.iload_n 3, 1) := by decide +kernel
theorem d_Mo_judge_81 : decode prog_13_method_65_code 81 = .ok (.ifCond .ne 7, 3) := by decide +kernel
theorem d_Mo_judge_84 : decode prog_13_method_65_code 84 = .ok (.iconst 1, 1) := by decide +kernel
theorem d_Mo_judge_85 : decode prog_13_method_65_code 85 = .ok (.goto 4, 3) := by decide +kernel
theorem d_Mo_judge_88 : decode prog_13_method_65_code 88 = .ok (.iconst 0, 1) := by decide +kernel
theorem d_Mo_judge_89 : decode prog_13_method_65_code 89 = .ok (.invokevirtual 305, 3) := by decide +kernel
theorem d_Mo_judge_92 : decode prog_13_method_65_code 92 = .ok (.ifCond .ne 5, 3) := by decide +kernel
theorem d_Mo_judge_95 : decode prog_13_method_65_code 95 = .ok (.iload_n 3, 1) := by decide +kernel
theorem d_Mo_judge_96 : decode prog_13_method_65_code 96 = .ok (.istore_n 2, 1) := by decide +kernel
theorem d_Mo_judge_97 : decode prog_13_method_65_code 97 = .ok (.iinc 3 1, 3) := by decide +kernel
theorem d_Mo_judge_100 : decode prog_13_method_65_code 100 = .ok (.goto (-47), 3) := by decide +kernel
theorem d_Mo_judge_103 : decode prog_13_method_65_code 103 = .ok (.aload_n 0, 1) := by decide +kernel
theorem d_Mo_judge_104 : decode prog_13_method_65_code 104 = .ok (.invokevirtual 309, 3) := by decide +kernel
theorem d_Mo_judge_107 : decode prog_13_method_65_code 107 = .ok (.iload_n 2, 1) := by decide +kernel
theorem d_Mo_judge_108 : decode prog_13_method_65_code 108 = .ok (.ireturn, 1) := by decide +kernel
def f_Mo_judge_L97  (k53 : Int32 → Int32 → Int32 → Int32 → Int32 → Int32 → Int32 → Int32 → Int32 → Bool → Int32 → Int32 → (Nat → Int32) → (Nat → Int32) → (Nat → Int32) → (Nat → Int32) → (Nat → Int32) → (Nat → Int32) → (Nat → Int32) → (Nat → Int32) → (Nat → Int32) → (Nat → Int64) → Option (Int32 × Int32 × Int32 × Int32 × Bool × Int32 × Int32 × (Nat → Int32) × (Nat → Int32) × (Nat → Int32) × (Nat → Int32) × (Nat → Int32) × (Nat → Int32) × (Nat → Int32) × (Nat → Int32))) (v1 : Int32) (v2 : Int32) (v3 : Int32) (x_o_lamps : Int32) (x_o_at : Int32) (x_o_night : Int32) (x_o_spent : Int32) (x_o_rest : Int32) (x_o_shy : Int32) (x_o_hasBegun : Bool) (x_o_wasAt : Int32) (x_o_wasNight : Int32) (x_o_had : Nat → Int32) (x_o_last : Nat → Int32) (x_o_often : Nat → Int32) (x_o_facts : Nat → Int32) (x_o_pile : Nat → Int32) (x_o_barred : Nat → Int32) (x_o_wasHad : Nat → Int32) (x_o_wasLast : Nat → Int32) (x_o_size : Nat → Int32) (x_o_elements : Nat → Int64) : Option (Int32 × Int32 × Int32 × Int32 × Bool × Int32 × Int32 × (Nat → Int32) × (Nat → Int32) × (Nat → Int32) × (Nat → Int32) × (Nat → Int32) × (Nat → Int32) × (Nat → Int32) × (Nat → Int32)) :=
  k53 v1 v2 (v3 + 1) x_o_lamps x_o_at x_o_night x_o_spent x_o_rest x_o_shy x_o_hasBegun x_o_wasAt x_o_wasNight x_o_had x_o_last x_o_often x_o_facts x_o_pile x_o_barred x_o_wasHad x_o_wasLast x_o_size x_o_elements
set_option maxRecDepth 20000 in
theorem w_Mo_judge_L97 {p : Program} {l : Launch} {e : Env} {s : State} {m : MethodId} {args : Array Value} {below : List Frame} {meth : Method} {c : Code} {D : va_G} {dA : Nat → ClassId} {A : Nat → Prop} (C : GC p s m args meth c prog_13_method_65_code 4 "OneLampModel" (some .int) D dA A) {a_o a_o_had a_o_told a_o_barred a_o_cost a_o_last a_o_often a_o_changeOf a_o_changeAt a_o_before a_o_behind a_o_tape a_o_act a_o_with a_o_lineMany a_o_testEnd a_o_lineEnd a_o_facts a_o_pile a_o_way a_o_bestWay a_o_wasHad a_o_wasLast a_o_keptHad a_o_keptTold a_o_keptLast a_o_keptOften a_o_kind a_o_traced a_o_holds a_o_size a_o_elements a_o_shifted : Nat} {x_o_code : Int32} {x_o_doneMany : Int32} {x_o_undoneMany : Int32} {x_o_taped : Int32} {x_o_here : Int32} {x_o_fault : Int32} {x_o_open : Int32} {x_o_laid : Int32} {x_o_hasLaw : Bool} {x_o_bestMany : Int32} {x_o_hasImage : Bool} {x_o_keptLamps : Int32} {x_o_keptAt : Int32} {x_o_keptNight : Int32} {x_o_keptSpent : Int32} {x_o_bodies : Int32} {x_o_traces : Int32} {x_o_holds : Nat → Int32} {x_o_told : Nat → Int32} {x_o_lineMany : Nat → Int32} {x_o_testEnd : Nat → Int32} {x_o_act : Nat → Int32} {x_o_with : Nat → Int32} {x_o_lineEnd : Nat → Int32} {r0 : Int32} {o_x_o_at : Int32} {o_x_o_night : Int32} {o_x_o_spent : Int32} {o_x_o_hasBegun : Bool} {o_x_o_wasAt : Int32} {o_x_o_wasNight : Int32} {o_x_o_had : Nat → Int32} {o_x_o_last : Nat → Int32} {o_x_o_often : Nat → Int32} {o_x_o_facts : Nat → Int32} {o_x_o_pile : Nat → Int32} {o_x_o_barred : Nat → Int32} {o_x_o_wasHad : Nat → Int32} {o_x_o_wasLast : Nat → Int32}   (k53 : Int32 → Int32 → Int32 → Int32 → Int32 → Int32 → Int32 → Int32 → Int32 → Bool → Int32 → Int32 → (Nat → Int32) → (Nat → Int32) → (Nat → Int32) → (Nat → Int32) → (Nat → Int32) → (Nat → Int32) → (Nat → Int32) → (Nat → Int32) → (Nat → Int32) → (Nat → Int64) → Option (Int32 × Int32 × Int32 × Int32 × Bool × Int32 × Int32 × (Nat → Int32) × (Nat → Int32) × (Nat → Int32) × (Nat → Int32) × (Nat → Int32) × (Nat → Int32) × (Nat → Int32) × (Nat → Int32))) (hk53 : ∀ (v1 : Int32) (v2 : Int32) (v3 : Int32) (x_o_lamps : Int32) (x_o_at : Int32) (x_o_night : Int32) (x_o_spent : Int32) (x_o_rest : Int32) (x_o_shy : Int32) (x_o_hasBegun : Bool) (x_o_wasAt : Int32) (x_o_wasNight : Int32) (x_o_had : Nat → Int32) (x_o_last : Nat → Int32) (x_o_often : Nat → Int32) (x_o_facts : Nat → Int32) (x_o_pile : Nat → Int32) (x_o_barred : Nat → Int32) (x_o_wasHad : Nat → Int32) (x_o_wasLast : Nat → Int32) (x_o_size : Nat → Int32) (x_o_elements : Nat → Int64), k53 v1 v2 v3 x_o_lamps x_o_at x_o_night x_o_spent x_o_rest x_o_shy x_o_hasBegun x_o_wasAt x_o_wasNight x_o_had x_o_last x_o_often x_o_facts x_o_pile x_o_barred x_o_wasHad x_o_wasLast x_o_size x_o_elements = some (r0, o_x_o_at, o_x_o_night, o_x_o_spent, o_x_o_hasBegun, o_x_o_wasAt, o_x_o_wasNight, o_x_o_had, o_x_o_last, o_x_o_often, o_x_o_facts, o_x_o_pile, o_x_o_barred, o_x_o_wasHad, o_x_o_wasLast) → GG p l e { frames := 5, cells := 0, slots := 0, locals := 114 } s m args below meth c 4 D A 0 0 (MQ below (cQ D A (some (.int r0)) (fun _ : Unit => [O_Mo a_o x_o_code x_o_lamps o_x_o_at o_x_o_night o_x_o_spent x_o_rest x_o_shy a_o_had a_o_told a_o_barred a_o_cost a_o_last a_o_often o_x_o_hasBegun x_o_doneMany x_o_undoneMany a_o_changeOf a_o_changeAt a_o_before a_o_behind a_o_tape x_o_taped x_o_here x_o_fault x_o_open x_o_laid a_o_act a_o_with a_o_lineMany a_o_testEnd a_o_lineEnd a_o_facts a_o_pile x_o_hasLaw a_o_way a_o_bestWay x_o_bestMany a_o_wasHad a_o_wasLast o_x_o_wasAt o_x_o_wasNight x_o_hasImage x_o_keptLamps x_o_keptAt x_o_keptNight x_o_keptSpent a_o_keptHad a_o_keptTold a_o_keptLast a_o_keptOften x_o_bodies a_o_kind x_o_traces a_o_traced a_o_holds a_o_size a_o_elements a_o_shifted, A_Z dA a_o_had 1024 o_x_o_had, A_I dA a_o_last 10 o_x_o_last, A_I dA a_o_often 10 o_x_o_often, A_I dA a_o_holds 6 x_o_holds, A_Z dA a_o_told 1024 x_o_told, A_I dA a_o_facts 4 o_x_o_facts, A_I dA a_o_lineMany 2 x_o_lineMany, A_S dA a_o_testEnd 122 x_o_testEnd, A_B dA a_o_act 260 x_o_act, A_I dA a_o_pile 130 o_x_o_pile, A_I dA a_o_with 260 x_o_with, A_S dA a_o_lineEnd 122 x_o_lineEnd, A_Z dA a_o_barred 1024 o_x_o_barred, A_Z dA a_o_wasHad 1024 o_x_o_wasHad, A_I dA a_o_wasLast 10 o_x_o_wasLast, A_I dA a_o_size 6 x_o_size, A_J dA a_o_elements 360 x_o_elements])) args s 0 0 A) 53 [(0, .ref a_o), (1, .int v1), (2, .int v2), (3, .int v3)] [] [O_Mo a_o x_o_code x_o_lamps x_o_at x_o_night x_o_spent x_o_rest x_o_shy a_o_had a_o_told a_o_barred a_o_cost a_o_last a_o_often x_o_hasBegun x_o_doneMany x_o_undoneMany a_o_changeOf a_o_changeAt a_o_before a_o_behind a_o_tape x_o_taped x_o_here x_o_fault x_o_open x_o_laid a_o_act a_o_with a_o_lineMany a_o_testEnd a_o_lineEnd a_o_facts a_o_pile x_o_hasLaw a_o_way a_o_bestWay x_o_bestMany a_o_wasHad a_o_wasLast x_o_wasAt x_o_wasNight x_o_hasImage x_o_keptLamps x_o_keptAt x_o_keptNight x_o_keptSpent a_o_keptHad a_o_keptTold a_o_keptLast a_o_keptOften x_o_bodies a_o_kind x_o_traces a_o_traced a_o_holds a_o_size a_o_elements a_o_shifted, A_Z dA a_o_had 1024 x_o_had, A_I dA a_o_last 10 x_o_last, A_I dA a_o_often 10 x_o_often, A_I dA a_o_holds 6 x_o_holds, A_Z dA a_o_told 1024 x_o_told, A_I dA a_o_facts 4 x_o_facts, A_I dA a_o_lineMany 2 x_o_lineMany, A_S dA a_o_testEnd 122 x_o_testEnd, A_B dA a_o_act 260 x_o_act, A_I dA a_o_pile 130 x_o_pile, A_I dA a_o_with 260 x_o_with, A_S dA a_o_lineEnd 122 x_o_lineEnd, A_Z dA a_o_barred 1024 x_o_barred, A_Z dA a_o_wasHad 1024 x_o_wasHad, A_I dA a_o_wasLast 10 x_o_wasLast, A_I dA a_o_size 6 x_o_size, A_J dA a_o_elements 360 x_o_elements]) (v1 : Int32) (v2 : Int32) (v3 : Int32) (x_o_lamps : Int32) (x_o_at : Int32) (x_o_night : Int32) (x_o_spent : Int32) (x_o_rest : Int32) (x_o_shy : Int32) (x_o_hasBegun : Bool) (x_o_wasAt : Int32) (x_o_wasNight : Int32) (x_o_had : Nat → Int32) (x_o_last : Nat → Int32) (x_o_often : Nat → Int32) (x_o_facts : Nat → Int32) (x_o_pile : Nat → Int32) (x_o_barred : Nat → Int32) (x_o_wasHad : Nat → Int32) (x_o_wasLast : Nat → Int32) (x_o_size : Nat → Int32) (x_o_elements : Nat → Int64) (hf : f_Mo_judge_L97  k53 v1 v2 v3 x_o_lamps x_o_at x_o_night x_o_spent x_o_rest x_o_shy x_o_hasBegun x_o_wasAt x_o_wasNight x_o_had x_o_last x_o_often x_o_facts x_o_pile x_o_barred x_o_wasHad x_o_wasLast x_o_size x_o_elements = some (r0, o_x_o_at, o_x_o_night, o_x_o_spent, o_x_o_hasBegun, o_x_o_wasAt, o_x_o_wasNight, o_x_o_had, o_x_o_last, o_x_o_often, o_x_o_facts, o_x_o_pile, o_x_o_barred, o_x_o_wasHad, o_x_o_wasLast)) : GG p l e { frames := 5, cells := 0, slots := 0, locals := 114 } s m args below meth c 4 D A 0 0 (MQ below (cQ D A (some (.int r0)) (fun _ : Unit => [O_Mo a_o x_o_code x_o_lamps o_x_o_at o_x_o_night o_x_o_spent x_o_rest x_o_shy a_o_had a_o_told a_o_barred a_o_cost a_o_last a_o_often o_x_o_hasBegun x_o_doneMany x_o_undoneMany a_o_changeOf a_o_changeAt a_o_before a_o_behind a_o_tape x_o_taped x_o_here x_o_fault x_o_open x_o_laid a_o_act a_o_with a_o_lineMany a_o_testEnd a_o_lineEnd a_o_facts a_o_pile x_o_hasLaw a_o_way a_o_bestWay x_o_bestMany a_o_wasHad a_o_wasLast o_x_o_wasAt o_x_o_wasNight x_o_hasImage x_o_keptLamps x_o_keptAt x_o_keptNight x_o_keptSpent a_o_keptHad a_o_keptTold a_o_keptLast a_o_keptOften x_o_bodies a_o_kind x_o_traces a_o_traced a_o_holds a_o_size a_o_elements a_o_shifted, A_Z dA a_o_had 1024 o_x_o_had, A_I dA a_o_last 10 o_x_o_last, A_I dA a_o_often 10 o_x_o_often, A_I dA a_o_holds 6 x_o_holds, A_Z dA a_o_told 1024 x_o_told, A_I dA a_o_facts 4 o_x_o_facts, A_I dA a_o_lineMany 2 x_o_lineMany, A_S dA a_o_testEnd 122 x_o_testEnd, A_B dA a_o_act 260 x_o_act, A_I dA a_o_pile 130 o_x_o_pile, A_I dA a_o_with 260 x_o_with, A_S dA a_o_lineEnd 122 x_o_lineEnd, A_Z dA a_o_barred 1024 o_x_o_barred, A_Z dA a_o_wasHad 1024 o_x_o_wasHad, A_I dA a_o_wasLast 10 o_x_o_wasLast, A_I dA a_o_size 6 x_o_size, A_J dA a_o_elements 360 x_o_elements])) args s 0 0 A) 97 [(0, .ref a_o), (1, .int v1), (2, .int v2), (3, .int v3)] [] [O_Mo a_o x_o_code x_o_lamps x_o_at x_o_night x_o_spent x_o_rest x_o_shy a_o_had a_o_told a_o_barred a_o_cost a_o_last a_o_often x_o_hasBegun x_o_doneMany x_o_undoneMany a_o_changeOf a_o_changeAt a_o_before a_o_behind a_o_tape x_o_taped x_o_here x_o_fault x_o_open x_o_laid a_o_act a_o_with a_o_lineMany a_o_testEnd a_o_lineEnd a_o_facts a_o_pile x_o_hasLaw a_o_way a_o_bestWay x_o_bestMany a_o_wasHad a_o_wasLast x_o_wasAt x_o_wasNight x_o_hasImage x_o_keptLamps x_o_keptAt x_o_keptNight x_o_keptSpent a_o_keptHad a_o_keptTold a_o_keptLast a_o_keptOften x_o_bodies a_o_kind x_o_traces a_o_traced a_o_holds a_o_size a_o_elements a_o_shifted, A_Z dA a_o_had 1024 x_o_had, A_I dA a_o_last 10 x_o_last, A_I dA a_o_often 10 x_o_often, A_I dA a_o_holds 6 x_o_holds, A_Z dA a_o_told 1024 x_o_told, A_I dA a_o_facts 4 x_o_facts, A_I dA a_o_lineMany 2 x_o_lineMany, A_S dA a_o_testEnd 122 x_o_testEnd, A_B dA a_o_act 260 x_o_act, A_I dA a_o_pile 130 x_o_pile, A_I dA a_o_with 260 x_o_with, A_S dA a_o_lineEnd 122 x_o_lineEnd, A_Z dA a_o_barred 1024 x_o_barred, A_Z dA a_o_wasHad 1024 x_o_wasHad, A_I dA a_o_wasLast 10 x_o_wasLast, A_I dA a_o_size 6 x_o_size, A_J dA a_o_elements 360 x_o_elements] := by
  unfold f_Mo_judge_L97 at hf
  refine g_iinc (pc' := 100) (j := 3) (v := (v3 + 1)) (lv' := [(3, .int (v3 + 1)), (0, .ref a_o), (1, .int v1), (2, .int v2)]) C d_Mo_judge_97 rfl rfl rfl (by decide) rfl ?_
  refine g_goto (tgt := 53) C d_Mo_judge_100 rfl ?_
  refine g_lv (lv' := [(0, .ref a_o), (1, .int v1), (2, .int v2), (3, .int (v3 + 1))]) [1, 2, 3, 0] rfl ?_
  exact hk53 v1 v2 (v3 + 1) x_o_lamps x_o_at x_o_night x_o_spent x_o_rest x_o_shy x_o_hasBegun x_o_wasAt x_o_wasNight x_o_had x_o_last x_o_often x_o_facts x_o_pile x_o_barred x_o_wasHad x_o_wasLast x_o_size x_o_elements hf
def f_Mo_judge_L89  (k53 : Int32 → Int32 → Int32 → Int32 → Int32 → Int32 → Int32 → Int32 → Int32 → Bool → Int32 → Int32 → (Nat → Int32) → (Nat → Int32) → (Nat → Int32) → (Nat → Int32) → (Nat → Int32) → (Nat → Int32) → (Nat → Int32) → (Nat → Int32) → (Nat → Int32) → (Nat → Int64) → Option (Int32 × Int32 × Int32 × Int32 × Bool × Int32 × Int32 × (Nat → Int32) × (Nat → Int32) × (Nat → Int32) × (Nat → Int32) × (Nat → Int32) × (Nat → Int32) × (Nat → Int32) × (Nat → Int32))) (v1 : Int32) (v2 : Int32) (v3 : Int32) (s0 : Bool) (s1 : Int32) (x_o_lamps : Int32) (x_o_at : Int32) (x_o_night : Int32) (x_o_spent : Int32) (x_o_rest : Int32) (x_o_shy : Int32) (x_o_hasBegun : Bool) (x_o_wasAt : Int32) (x_o_wasNight : Int32) (x_o_had : Nat → Int32) (x_o_last : Nat → Int32) (x_o_often : Nat → Int32) (x_o_facts : Nat → Int32) (x_o_pile : Nat → Int32) (x_o_barred : Nat → Int32) (x_o_wasHad : Nat → Int32) (x_o_wasLast : Nat → Int32) (x_o_size : Nat → Int32) (x_o_elements : Nat → Int64) : Option (Int32 × Int32 × Int32 × Int32 × Bool × Int32 × Int32 × (Nat → Int32) × (Nat → Int32) × (Nat → Int32) × (Nat → Int32) × (Nat → Int32) × (Nat → Int32) × (Nat → Int32) × (Nat → Int32)) :=
  (f_Mo_goesTo  s1 s0 x_o_lamps x_o_at x_o_night x_o_rest x_o_shy x_o_barred x_o_had x_o_last).bind fun (r1, u2, u3, u4, u5) =>
  if r1 = true then
    (f_Mo_judge_L97 k53 v1 v2 v3 x_o_lamps u2 u3 x_o_spent x_o_rest x_o_shy x_o_hasBegun x_o_wasAt x_o_wasNight u4 u5 x_o_often x_o_facts x_o_pile x_o_barred x_o_wasHad x_o_wasLast x_o_size x_o_elements)
  else
    (f_Mo_judge_L97 k53 v1 v3 v3 x_o_lamps u2 u3 x_o_spent x_o_rest x_o_shy x_o_hasBegun x_o_wasAt x_o_wasNight u4 u5 x_o_often x_o_facts x_o_pile x_o_barred x_o_wasHad x_o_wasLast x_o_size x_o_elements)
set_option maxRecDepth 20000 in
theorem w_Mo_judge_L89 {p : Program} {l : Launch} {e : Env} {s : State} {m : MethodId} {args : Array Value} {below : List Frame} {meth : Method} {c : Code} {D : va_G} {dA : Nat → ClassId} {A : Nat → Prop} (C : GC p s m args meth c prog_13_method_65_code 4 "OneLampModel" (some .int) D dA A) {a_o a_o_had a_o_told a_o_barred a_o_cost a_o_last a_o_often a_o_changeOf a_o_changeAt a_o_before a_o_behind a_o_tape a_o_act a_o_with a_o_lineMany a_o_testEnd a_o_lineEnd a_o_facts a_o_pile a_o_way a_o_bestWay a_o_wasHad a_o_wasLast a_o_keptHad a_o_keptTold a_o_keptLast a_o_keptOften a_o_kind a_o_traced a_o_holds a_o_size a_o_elements a_o_shifted : Nat} {x_o_code : Int32} {x_o_doneMany : Int32} {x_o_undoneMany : Int32} {x_o_taped : Int32} {x_o_here : Int32} {x_o_fault : Int32} {x_o_open : Int32} {x_o_laid : Int32} {x_o_hasLaw : Bool} {x_o_bestMany : Int32} {x_o_hasImage : Bool} {x_o_keptLamps : Int32} {x_o_keptAt : Int32} {x_o_keptNight : Int32} {x_o_keptSpent : Int32} {x_o_bodies : Int32} {x_o_traces : Int32} {x_o_holds : Nat → Int32} {x_o_told : Nat → Int32} {x_o_lineMany : Nat → Int32} {x_o_testEnd : Nat → Int32} {x_o_act : Nat → Int32} {x_o_with : Nat → Int32} {x_o_lineEnd : Nat → Int32} {r0 : Int32} {o_x_o_at : Int32} {o_x_o_night : Int32} {o_x_o_spent : Int32} {o_x_o_hasBegun : Bool} {o_x_o_wasAt : Int32} {o_x_o_wasNight : Int32} {o_x_o_had : Nat → Int32} {o_x_o_last : Nat → Int32} {o_x_o_often : Nat → Int32} {o_x_o_facts : Nat → Int32} {o_x_o_pile : Nat → Int32} {o_x_o_barred : Nat → Int32} {o_x_o_wasHad : Nat → Int32} {o_x_o_wasLast : Nat → Int32}   (k53 : Int32 → Int32 → Int32 → Int32 → Int32 → Int32 → Int32 → Int32 → Int32 → Bool → Int32 → Int32 → (Nat → Int32) → (Nat → Int32) → (Nat → Int32) → (Nat → Int32) → (Nat → Int32) → (Nat → Int32) → (Nat → Int32) → (Nat → Int32) → (Nat → Int32) → (Nat → Int64) → Option (Int32 × Int32 × Int32 × Int32 × Bool × Int32 × Int32 × (Nat → Int32) × (Nat → Int32) × (Nat → Int32) × (Nat → Int32) × (Nat → Int32) × (Nat → Int32) × (Nat → Int32) × (Nat → Int32))) (hk53 : ∀ (v1 : Int32) (v2 : Int32) (v3 : Int32) (x_o_lamps : Int32) (x_o_at : Int32) (x_o_night : Int32) (x_o_spent : Int32) (x_o_rest : Int32) (x_o_shy : Int32) (x_o_hasBegun : Bool) (x_o_wasAt : Int32) (x_o_wasNight : Int32) (x_o_had : Nat → Int32) (x_o_last : Nat → Int32) (x_o_often : Nat → Int32) (x_o_facts : Nat → Int32) (x_o_pile : Nat → Int32) (x_o_barred : Nat → Int32) (x_o_wasHad : Nat → Int32) (x_o_wasLast : Nat → Int32) (x_o_size : Nat → Int32) (x_o_elements : Nat → Int64), k53 v1 v2 v3 x_o_lamps x_o_at x_o_night x_o_spent x_o_rest x_o_shy x_o_hasBegun x_o_wasAt x_o_wasNight x_o_had x_o_last x_o_often x_o_facts x_o_pile x_o_barred x_o_wasHad x_o_wasLast x_o_size x_o_elements = some (r0, o_x_o_at, o_x_o_night, o_x_o_spent, o_x_o_hasBegun, o_x_o_wasAt, o_x_o_wasNight, o_x_o_had, o_x_o_last, o_x_o_often, o_x_o_facts, o_x_o_pile, o_x_o_barred, o_x_o_wasHad, o_x_o_wasLast) → GG p l e { frames := 5, cells := 0, slots := 0, locals := 114 } s m args below meth c 4 D A 0 0 (MQ below (cQ D A (some (.int r0)) (fun _ : Unit => [O_Mo a_o x_o_code x_o_lamps o_x_o_at o_x_o_night o_x_o_spent x_o_rest x_o_shy a_o_had a_o_told a_o_barred a_o_cost a_o_last a_o_often o_x_o_hasBegun x_o_doneMany x_o_undoneMany a_o_changeOf a_o_changeAt a_o_before a_o_behind a_o_tape x_o_taped x_o_here x_o_fault x_o_open x_o_laid a_o_act a_o_with a_o_lineMany a_o_testEnd a_o_lineEnd a_o_facts a_o_pile x_o_hasLaw a_o_way a_o_bestWay x_o_bestMany a_o_wasHad a_o_wasLast o_x_o_wasAt o_x_o_wasNight x_o_hasImage x_o_keptLamps x_o_keptAt x_o_keptNight x_o_keptSpent a_o_keptHad a_o_keptTold a_o_keptLast a_o_keptOften x_o_bodies a_o_kind x_o_traces a_o_traced a_o_holds a_o_size a_o_elements a_o_shifted, A_Z dA a_o_had 1024 o_x_o_had, A_I dA a_o_last 10 o_x_o_last, A_I dA a_o_often 10 o_x_o_often, A_I dA a_o_holds 6 x_o_holds, A_Z dA a_o_told 1024 x_o_told, A_I dA a_o_facts 4 o_x_o_facts, A_I dA a_o_lineMany 2 x_o_lineMany, A_S dA a_o_testEnd 122 x_o_testEnd, A_B dA a_o_act 260 x_o_act, A_I dA a_o_pile 130 o_x_o_pile, A_I dA a_o_with 260 x_o_with, A_S dA a_o_lineEnd 122 x_o_lineEnd, A_Z dA a_o_barred 1024 o_x_o_barred, A_Z dA a_o_wasHad 1024 o_x_o_wasHad, A_I dA a_o_wasLast 10 o_x_o_wasLast, A_I dA a_o_size 6 x_o_size, A_J dA a_o_elements 360 x_o_elements])) args s 0 0 A) 53 [(0, .ref a_o), (1, .int v1), (2, .int v2), (3, .int v3)] [] [O_Mo a_o x_o_code x_o_lamps x_o_at x_o_night x_o_spent x_o_rest x_o_shy a_o_had a_o_told a_o_barred a_o_cost a_o_last a_o_often x_o_hasBegun x_o_doneMany x_o_undoneMany a_o_changeOf a_o_changeAt a_o_before a_o_behind a_o_tape x_o_taped x_o_here x_o_fault x_o_open x_o_laid a_o_act a_o_with a_o_lineMany a_o_testEnd a_o_lineEnd a_o_facts a_o_pile x_o_hasLaw a_o_way a_o_bestWay x_o_bestMany a_o_wasHad a_o_wasLast x_o_wasAt x_o_wasNight x_o_hasImage x_o_keptLamps x_o_keptAt x_o_keptNight x_o_keptSpent a_o_keptHad a_o_keptTold a_o_keptLast a_o_keptOften x_o_bodies a_o_kind x_o_traces a_o_traced a_o_holds a_o_size a_o_elements a_o_shifted, A_Z dA a_o_had 1024 x_o_had, A_I dA a_o_last 10 x_o_last, A_I dA a_o_often 10 x_o_often, A_I dA a_o_holds 6 x_o_holds, A_Z dA a_o_told 1024 x_o_told, A_I dA a_o_facts 4 x_o_facts, A_I dA a_o_lineMany 2 x_o_lineMany, A_S dA a_o_testEnd 122 x_o_testEnd, A_B dA a_o_act 260 x_o_act, A_I dA a_o_pile 130 x_o_pile, A_I dA a_o_with 260 x_o_with, A_S dA a_o_lineEnd 122 x_o_lineEnd, A_Z dA a_o_barred 1024 x_o_barred, A_Z dA a_o_wasHad 1024 x_o_wasHad, A_I dA a_o_wasLast 10 x_o_wasLast, A_I dA a_o_size 6 x_o_size, A_J dA a_o_elements 360 x_o_elements]) (v1 : Int32) (v2 : Int32) (v3 : Int32) (s0 : Bool) (s1 : Int32) (x_o_lamps : Int32) (x_o_at : Int32) (x_o_night : Int32) (x_o_spent : Int32) (x_o_rest : Int32) (x_o_shy : Int32) (x_o_hasBegun : Bool) (x_o_wasAt : Int32) (x_o_wasNight : Int32) (x_o_had : Nat → Int32) (x_o_last : Nat → Int32) (x_o_often : Nat → Int32) (x_o_facts : Nat → Int32) (x_o_pile : Nat → Int32) (x_o_barred : Nat → Int32) (x_o_wasHad : Nat → Int32) (x_o_wasLast : Nat → Int32) (x_o_size : Nat → Int32) (x_o_elements : Nat → Int64) (hf : f_Mo_judge_L89  k53 v1 v2 v3 s0 s1 x_o_lamps x_o_at x_o_night x_o_spent x_o_rest x_o_shy x_o_hasBegun x_o_wasAt x_o_wasNight x_o_had x_o_last x_o_often x_o_facts x_o_pile x_o_barred x_o_wasHad x_o_wasLast x_o_size x_o_elements = some (r0, o_x_o_at, o_x_o_night, o_x_o_spent, o_x_o_hasBegun, o_x_o_wasAt, o_x_o_wasNight, o_x_o_had, o_x_o_last, o_x_o_often, o_x_o_facts, o_x_o_pile, o_x_o_barred, o_x_o_wasHad, o_x_o_wasLast)) : GG p l e { frames := 5, cells := 0, slots := 0, locals := 114 } s m args below meth c 4 D A 0 0 (MQ below (cQ D A (some (.int r0)) (fun _ : Unit => [O_Mo a_o x_o_code x_o_lamps o_x_o_at o_x_o_night o_x_o_spent x_o_rest x_o_shy a_o_had a_o_told a_o_barred a_o_cost a_o_last a_o_often o_x_o_hasBegun x_o_doneMany x_o_undoneMany a_o_changeOf a_o_changeAt a_o_before a_o_behind a_o_tape x_o_taped x_o_here x_o_fault x_o_open x_o_laid a_o_act a_o_with a_o_lineMany a_o_testEnd a_o_lineEnd a_o_facts a_o_pile x_o_hasLaw a_o_way a_o_bestWay x_o_bestMany a_o_wasHad a_o_wasLast o_x_o_wasAt o_x_o_wasNight x_o_hasImage x_o_keptLamps x_o_keptAt x_o_keptNight x_o_keptSpent a_o_keptHad a_o_keptTold a_o_keptLast a_o_keptOften x_o_bodies a_o_kind x_o_traces a_o_traced a_o_holds a_o_size a_o_elements a_o_shifted, A_Z dA a_o_had 1024 o_x_o_had, A_I dA a_o_last 10 o_x_o_last, A_I dA a_o_often 10 o_x_o_often, A_I dA a_o_holds 6 x_o_holds, A_Z dA a_o_told 1024 x_o_told, A_I dA a_o_facts 4 o_x_o_facts, A_I dA a_o_lineMany 2 x_o_lineMany, A_S dA a_o_testEnd 122 x_o_testEnd, A_B dA a_o_act 260 x_o_act, A_I dA a_o_pile 130 o_x_o_pile, A_I dA a_o_with 260 x_o_with, A_S dA a_o_lineEnd 122 x_o_lineEnd, A_Z dA a_o_barred 1024 o_x_o_barred, A_Z dA a_o_wasHad 1024 o_x_o_wasHad, A_I dA a_o_wasLast 10 o_x_o_wasLast, A_I dA a_o_size 6 x_o_size, A_J dA a_o_elements 360 x_o_elements])) args s 0 0 A) 89 [(0, .ref a_o), (1, .int v1), (2, .int v2), (3, .int v3)] [.int (b2i s0), .int s1, .ref a_o] [O_Mo a_o x_o_code x_o_lamps x_o_at x_o_night x_o_spent x_o_rest x_o_shy a_o_had a_o_told a_o_barred a_o_cost a_o_last a_o_often x_o_hasBegun x_o_doneMany x_o_undoneMany a_o_changeOf a_o_changeAt a_o_before a_o_behind a_o_tape x_o_taped x_o_here x_o_fault x_o_open x_o_laid a_o_act a_o_with a_o_lineMany a_o_testEnd a_o_lineEnd a_o_facts a_o_pile x_o_hasLaw a_o_way a_o_bestWay x_o_bestMany a_o_wasHad a_o_wasLast x_o_wasAt x_o_wasNight x_o_hasImage x_o_keptLamps x_o_keptAt x_o_keptNight x_o_keptSpent a_o_keptHad a_o_keptTold a_o_keptLast a_o_keptOften x_o_bodies a_o_kind x_o_traces a_o_traced a_o_holds a_o_size a_o_elements a_o_shifted, A_Z dA a_o_had 1024 x_o_had, A_I dA a_o_last 10 x_o_last, A_I dA a_o_often 10 x_o_often, A_I dA a_o_holds 6 x_o_holds, A_Z dA a_o_told 1024 x_o_told, A_I dA a_o_facts 4 x_o_facts, A_I dA a_o_lineMany 2 x_o_lineMany, A_S dA a_o_testEnd 122 x_o_testEnd, A_B dA a_o_act 260 x_o_act, A_I dA a_o_pile 130 x_o_pile, A_I dA a_o_with 260 x_o_with, A_S dA a_o_lineEnd 122 x_o_lineEnd, A_Z dA a_o_barred 1024 x_o_barred, A_Z dA a_o_wasHad 1024 x_o_wasHad, A_I dA a_o_wasLast 10 x_o_wasLast, A_I dA a_o_size 6 x_o_size, A_J dA a_o_elements 360 x_o_elements] := by
  unfold f_Mo_judge_L89 at hf
  replace hf := g_bi hf; obtain ⟨⟨r1, u2, u3, u4, u5⟩, hc6, hf⟩ := hf
  dsimp only at hf
  refine g_callV (pc' := 92) (st1 := [.int (b2i r1)]) (ws1 := [O_Mo a_o x_o_code x_o_lamps u2 u3 x_o_spent x_o_rest x_o_shy a_o_had a_o_told a_o_barred a_o_cost a_o_last a_o_often x_o_hasBegun x_o_doneMany x_o_undoneMany a_o_changeOf a_o_changeAt a_o_before a_o_behind a_o_tape x_o_taped x_o_here x_o_fault x_o_open x_o_laid a_o_act a_o_with a_o_lineMany a_o_testEnd a_o_lineEnd a_o_facts a_o_pile x_o_hasLaw a_o_way a_o_bestWay x_o_bestMany a_o_wasHad a_o_wasLast x_o_wasAt x_o_wasNight x_o_hasImage x_o_keptLamps x_o_keptAt x_o_keptNight x_o_keptSpent a_o_keptHad a_o_keptTold a_o_keptLast a_o_keptOften x_o_bodies a_o_kind x_o_traces a_o_traced a_o_holds a_o_size a_o_elements a_o_shifted, A_Z dA a_o_had 1024 u4, A_I dA a_o_last 10 u5, A_I dA a_o_often 10 x_o_often, A_I dA a_o_holds 6 x_o_holds, A_Z dA a_o_told 1024 x_o_told, A_I dA a_o_facts 4 x_o_facts, A_I dA a_o_lineMany 2 x_o_lineMany, A_S dA a_o_testEnd 122 x_o_testEnd, A_B dA a_o_act 260 x_o_act, A_I dA a_o_pile 130 x_o_pile, A_I dA a_o_with 260 x_o_with, A_S dA a_o_lineEnd 122 x_o_lineEnd, A_Z dA a_o_barred 1024 x_o_barred, A_Z dA a_o_wasHad 1024 x_o_wasHad, A_I dA a_o_wasLast 10 x_o_wasLast, A_I dA a_o_size 6 x_o_size, A_J dA a_o_elements 360 x_o_elements]) C (c_Mo_goesTo (l := l) (D := D) (dA := dA) (a_o := a_o) (a_o_had := a_o_had) (a_o_told := a_o_told) (a_o_barred := a_o_barred) (a_o_cost := a_o_cost) (a_o_last := a_o_last) (a_o_often := a_o_often) (a_o_changeOf := a_o_changeOf) (a_o_changeAt := a_o_changeAt) (a_o_before := a_o_before) (a_o_behind := a_o_behind) (a_o_tape := a_o_tape) (a_o_act := a_o_act) (a_o_with := a_o_with) (a_o_lineMany := a_o_lineMany) (a_o_testEnd := a_o_testEnd) (a_o_lineEnd := a_o_lineEnd) (a_o_facts := a_o_facts) (a_o_pile := a_o_pile) (a_o_way := a_o_way) (a_o_bestWay := a_o_bestWay) (a_o_wasHad := a_o_wasHad) (a_o_wasLast := a_o_wasLast) (a_o_keptHad := a_o_keptHad) (a_o_keptTold := a_o_keptTold) (a_o_keptLast := a_o_keptLast) (a_o_keptOften := a_o_keptOften) (a_o_kind := a_o_kind) (a_o_traced := a_o_traced) (a_o_holds := a_o_holds) (a_o_size := a_o_size) (a_o_elements := a_o_elements) (a_o_shifted := a_o_shifted) (x_o_code := x_o_code) (x_o_spent := x_o_spent) (x_o_hasBegun := x_o_hasBegun) (x_o_doneMany := x_o_doneMany) (x_o_undoneMany := x_o_undoneMany) (x_o_taped := x_o_taped) (x_o_here := x_o_here) (x_o_fault := x_o_fault) (x_o_open := x_o_open) (x_o_laid := x_o_laid) (x_o_hasLaw := x_o_hasLaw) (x_o_bestMany := x_o_bestMany) (x_o_wasAt := x_o_wasAt) (x_o_wasNight := x_o_wasNight) (x_o_hasImage := x_o_hasImage) (x_o_keptLamps := x_o_keptLamps) (x_o_keptAt := x_o_keptAt) (x_o_keptNight := x_o_keptNight) (x_o_keptSpent := x_o_keptSpent) (x_o_bodies := x_o_bodies) (x_o_traces := x_o_traces)   hc6) yy_Mo_goesTo kf_Mo rfl mw_6_75 d_Mo_judge_89 rfl [] rfl rfl (Nat.le_of_ble_eq_true rfl) ⟨Nat.le_of_ble_eq_true rfl, Nat.le_of_ble_eq_true rfl⟩ rfl rfl (Nat.zero_le _) (Nat.zero_le _) 0 rfl [0, 13, 1, 2] rfl (by decide +kernel) rfl (g_lay_sel _ _ _ _ [(0, true), (2, true), (3, true), (3, false), (4, false), (5, false), (6, false), (7, false), (8, false), (9, false), (10, false), (11, false), (12, false), (1, true), (14, false), (15, false), (16, false), (17, false)] (by decide +kernel) rfl (by decide +kernel) rfl rfl) rfl ?_
  refine g_if_neb (pc' := 95) (tgt := 97) C d_Mo_judge_92 rfl rfl (fun h => ?_) (fun h => ?_)
  · replace hf := g_bt h hf
    exact w_Mo_judge_L97 (a_o := a_o) (a_o_had := a_o_had) (a_o_told := a_o_told) (a_o_barred := a_o_barred) (a_o_cost := a_o_cost) (a_o_last := a_o_last) (a_o_often := a_o_often) (a_o_changeOf := a_o_changeOf) (a_o_changeAt := a_o_changeAt) (a_o_before := a_o_before) (a_o_behind := a_o_behind) (a_o_tape := a_o_tape) (a_o_act := a_o_act) (a_o_with := a_o_with) (a_o_lineMany := a_o_lineMany) (a_o_testEnd := a_o_testEnd) (a_o_lineEnd := a_o_lineEnd) (a_o_facts := a_o_facts) (a_o_pile := a_o_pile) (a_o_way := a_o_way) (a_o_bestWay := a_o_bestWay) (a_o_wasHad := a_o_wasHad) (a_o_wasLast := a_o_wasLast) (a_o_keptHad := a_o_keptHad) (a_o_keptTold := a_o_keptTold) (a_o_keptLast := a_o_keptLast) (a_o_keptOften := a_o_keptOften) (a_o_kind := a_o_kind) (a_o_traced := a_o_traced) (a_o_holds := a_o_holds) (a_o_size := a_o_size) (a_o_elements := a_o_elements) (a_o_shifted := a_o_shifted) C  k53 hk53 v1 v2 v3 x_o_lamps u2 u3 x_o_spent x_o_rest x_o_shy x_o_hasBegun x_o_wasAt x_o_wasNight u4 u5 x_o_often x_o_facts x_o_pile x_o_barred x_o_wasHad x_o_wasLast x_o_size x_o_elements hf
  · replace hf := g_bf h hf
    refine g_iload_n (pc' := 96) C 3 d_Mo_judge_95 rfl rfl ?_
    refine g_istore_n (pc' := 97) (lv' := [(2, .int v3), (0, .ref a_o), (1, .int v1), (3, .int v3)]) C d_Mo_judge_96 rfl (by decide) rfl ?_
    refine g_lv (lv' := [(0, .ref a_o), (1, .int v1), (2, .int v3), (3, .int v3)]) [1, 2, 0, 3] rfl ?_
    exact w_Mo_judge_L97 (a_o := a_o) (a_o_had := a_o_had) (a_o_told := a_o_told) (a_o_barred := a_o_barred) (a_o_cost := a_o_cost) (a_o_last := a_o_last) (a_o_often := a_o_often) (a_o_changeOf := a_o_changeOf) (a_o_changeAt := a_o_changeAt) (a_o_before := a_o_before) (a_o_behind := a_o_behind) (a_o_tape := a_o_tape) (a_o_act := a_o_act) (a_o_with := a_o_with) (a_o_lineMany := a_o_lineMany) (a_o_testEnd := a_o_testEnd) (a_o_lineEnd := a_o_lineEnd) (a_o_facts := a_o_facts) (a_o_pile := a_o_pile) (a_o_way := a_o_way) (a_o_bestWay := a_o_bestWay) (a_o_wasHad := a_o_wasHad) (a_o_wasLast := a_o_wasLast) (a_o_keptHad := a_o_keptHad) (a_o_keptTold := a_o_keptTold) (a_o_keptLast := a_o_keptLast) (a_o_keptOften := a_o_keptOften) (a_o_kind := a_o_kind) (a_o_traced := a_o_traced) (a_o_holds := a_o_holds) (a_o_size := a_o_size) (a_o_elements := a_o_elements) (a_o_shifted := a_o_shifted) C  k53 hk53 v1 v3 v3 x_o_lamps u2 u3 x_o_spent x_o_rest x_o_shy x_o_hasBegun x_o_wasAt x_o_wasNight u4 u5 x_o_often x_o_facts x_o_pile x_o_barred x_o_wasHad x_o_wasLast x_o_size x_o_elements hf
def f_Mo_judge_L103   (v2 : Int32) (x_o_at : Int32) (x_o_night : Int32) (x_o_spent : Int32) (x_o_hasBegun : Bool) (x_o_wasAt : Int32) (x_o_wasNight : Int32) (x_o_had : Nat → Int32) (x_o_last : Nat → Int32) (x_o_often : Nat → Int32) (x_o_facts : Nat → Int32) (x_o_pile : Nat → Int32) (x_o_barred : Nat → Int32) (x_o_wasHad : Nat → Int32) (x_o_wasLast : Nat → Int32) : Option (Int32 × Int32 × Int32 × Int32 × Bool × Int32 × Int32 × (Nat → Int32) × (Nat → Int32) × (Nat → Int32) × (Nat → Int32) × (Nat → Int32) × (Nat → Int32) × (Nat → Int32) × (Nat → Int32)) :=
  (f_Mo_layBack  x_o_at x_o_night x_o_wasAt x_o_wasNight x_o_wasHad x_o_had x_o_wasLast x_o_last).bind fun (u7, u8, u9, u10) =>
  some (v2, u7, u8, x_o_spent, x_o_hasBegun, x_o_wasAt, x_o_wasNight, u9, u10, x_o_often, x_o_facts, x_o_pile, x_o_barred, x_o_wasHad, x_o_wasLast)
set_option maxRecDepth 20000 in
theorem w_Mo_judge_L103 {p : Program} {l : Launch} {e : Env} {s : State} {m : MethodId} {args : Array Value} {below : List Frame} {meth : Method} {c : Code} {D : va_G} {dA : Nat → ClassId} {A : Nat → Prop} (C : GC p s m args meth c prog_13_method_65_code 4 "OneLampModel" (some .int) D dA A) {a_o a_o_had a_o_told a_o_barred a_o_cost a_o_last a_o_often a_o_changeOf a_o_changeAt a_o_before a_o_behind a_o_tape a_o_act a_o_with a_o_lineMany a_o_testEnd a_o_lineEnd a_o_facts a_o_pile a_o_way a_o_bestWay a_o_wasHad a_o_wasLast a_o_keptHad a_o_keptTold a_o_keptLast a_o_keptOften a_o_kind a_o_traced a_o_holds a_o_size a_o_elements a_o_shifted : Nat} {x_o_code : Int32} {x_o_lamps : Int32} {x_o_rest : Int32} {x_o_shy : Int32} {x_o_doneMany : Int32} {x_o_undoneMany : Int32} {x_o_taped : Int32} {x_o_here : Int32} {x_o_fault : Int32} {x_o_open : Int32} {x_o_laid : Int32} {x_o_hasLaw : Bool} {x_o_bestMany : Int32} {x_o_hasImage : Bool} {x_o_keptLamps : Int32} {x_o_keptAt : Int32} {x_o_keptNight : Int32} {x_o_keptSpent : Int32} {x_o_bodies : Int32} {x_o_traces : Int32} {x_o_holds : Nat → Int32} {x_o_told : Nat → Int32} {x_o_lineMany : Nat → Int32} {x_o_testEnd : Nat → Int32} {x_o_act : Nat → Int32} {x_o_with : Nat → Int32} {x_o_lineEnd : Nat → Int32} {x_o_size : Nat → Int32} {x_o_elements : Nat → Int64} {r0 : Int32} {o_x_o_at : Int32} {o_x_o_night : Int32} {o_x_o_spent : Int32} {o_x_o_hasBegun : Bool} {o_x_o_wasAt : Int32} {o_x_o_wasNight : Int32} {o_x_o_had : Nat → Int32} {o_x_o_last : Nat → Int32} {o_x_o_often : Nat → Int32} {o_x_o_facts : Nat → Int32} {o_x_o_pile : Nat → Int32} {o_x_o_barred : Nat → Int32} {o_x_o_wasHad : Nat → Int32} {o_x_o_wasLast : Nat → Int32}    (v2 : Int32) (x_o_at : Int32) (x_o_night : Int32) (x_o_spent : Int32) (x_o_hasBegun : Bool) (x_o_wasAt : Int32) (x_o_wasNight : Int32) (x_o_had : Nat → Int32) (x_o_last : Nat → Int32) (x_o_often : Nat → Int32) (x_o_facts : Nat → Int32) (x_o_pile : Nat → Int32) (x_o_barred : Nat → Int32) (x_o_wasHad : Nat → Int32) (x_o_wasLast : Nat → Int32) (hf : f_Mo_judge_L103   v2 x_o_at x_o_night x_o_spent x_o_hasBegun x_o_wasAt x_o_wasNight x_o_had x_o_last x_o_often x_o_facts x_o_pile x_o_barred x_o_wasHad x_o_wasLast = some (r0, o_x_o_at, o_x_o_night, o_x_o_spent, o_x_o_hasBegun, o_x_o_wasAt, o_x_o_wasNight, o_x_o_had, o_x_o_last, o_x_o_often, o_x_o_facts, o_x_o_pile, o_x_o_barred, o_x_o_wasHad, o_x_o_wasLast)) : GG p l e { frames := 5, cells := 0, slots := 0, locals := 114 } s m args below meth c 4 D A 0 0 (MQ below (cQ D A (some (.int r0)) (fun _ : Unit => [O_Mo a_o x_o_code x_o_lamps o_x_o_at o_x_o_night o_x_o_spent x_o_rest x_o_shy a_o_had a_o_told a_o_barred a_o_cost a_o_last a_o_often o_x_o_hasBegun x_o_doneMany x_o_undoneMany a_o_changeOf a_o_changeAt a_o_before a_o_behind a_o_tape x_o_taped x_o_here x_o_fault x_o_open x_o_laid a_o_act a_o_with a_o_lineMany a_o_testEnd a_o_lineEnd a_o_facts a_o_pile x_o_hasLaw a_o_way a_o_bestWay x_o_bestMany a_o_wasHad a_o_wasLast o_x_o_wasAt o_x_o_wasNight x_o_hasImage x_o_keptLamps x_o_keptAt x_o_keptNight x_o_keptSpent a_o_keptHad a_o_keptTold a_o_keptLast a_o_keptOften x_o_bodies a_o_kind x_o_traces a_o_traced a_o_holds a_o_size a_o_elements a_o_shifted, A_Z dA a_o_had 1024 o_x_o_had, A_I dA a_o_last 10 o_x_o_last, A_I dA a_o_often 10 o_x_o_often, A_I dA a_o_holds 6 x_o_holds, A_Z dA a_o_told 1024 x_o_told, A_I dA a_o_facts 4 o_x_o_facts, A_I dA a_o_lineMany 2 x_o_lineMany, A_S dA a_o_testEnd 122 x_o_testEnd, A_B dA a_o_act 260 x_o_act, A_I dA a_o_pile 130 o_x_o_pile, A_I dA a_o_with 260 x_o_with, A_S dA a_o_lineEnd 122 x_o_lineEnd, A_Z dA a_o_barred 1024 o_x_o_barred, A_Z dA a_o_wasHad 1024 o_x_o_wasHad, A_I dA a_o_wasLast 10 o_x_o_wasLast, A_I dA a_o_size 6 x_o_size, A_J dA a_o_elements 360 x_o_elements])) args s 0 0 A) 103 [(0, .ref a_o), (2, .int v2)] [] [O_Mo a_o x_o_code x_o_lamps x_o_at x_o_night x_o_spent x_o_rest x_o_shy a_o_had a_o_told a_o_barred a_o_cost a_o_last a_o_often x_o_hasBegun x_o_doneMany x_o_undoneMany a_o_changeOf a_o_changeAt a_o_before a_o_behind a_o_tape x_o_taped x_o_here x_o_fault x_o_open x_o_laid a_o_act a_o_with a_o_lineMany a_o_testEnd a_o_lineEnd a_o_facts a_o_pile x_o_hasLaw a_o_way a_o_bestWay x_o_bestMany a_o_wasHad a_o_wasLast x_o_wasAt x_o_wasNight x_o_hasImage x_o_keptLamps x_o_keptAt x_o_keptNight x_o_keptSpent a_o_keptHad a_o_keptTold a_o_keptLast a_o_keptOften x_o_bodies a_o_kind x_o_traces a_o_traced a_o_holds a_o_size a_o_elements a_o_shifted, A_Z dA a_o_had 1024 x_o_had, A_I dA a_o_last 10 x_o_last, A_I dA a_o_often 10 x_o_often, A_I dA a_o_holds 6 x_o_holds, A_Z dA a_o_told 1024 x_o_told, A_I dA a_o_facts 4 x_o_facts, A_I dA a_o_lineMany 2 x_o_lineMany, A_S dA a_o_testEnd 122 x_o_testEnd, A_B dA a_o_act 260 x_o_act, A_I dA a_o_pile 130 x_o_pile, A_I dA a_o_with 260 x_o_with, A_S dA a_o_lineEnd 122 x_o_lineEnd, A_Z dA a_o_barred 1024 x_o_barred, A_Z dA a_o_wasHad 1024 x_o_wasHad, A_I dA a_o_wasLast 10 x_o_wasLast, A_I dA a_o_size 6 x_o_size, A_J dA a_o_elements 360 x_o_elements] := by
  unfold f_Mo_judge_L103 at hf
  refine g_aload_n (pc' := 104) C 0 d_Mo_judge_103 rfl rfl ?_
  replace hf := g_bi hf; obtain ⟨⟨u7, u8, u9, u10⟩, hc11, hf⟩ := hf
  dsimp only at hf
  refine g_callV (pc' := 107) (st1 := []) (ws1 := [O_Mo a_o x_o_code x_o_lamps u7 u8 x_o_spent x_o_rest x_o_shy a_o_had a_o_told a_o_barred a_o_cost a_o_last a_o_often x_o_hasBegun x_o_doneMany x_o_undoneMany a_o_changeOf a_o_changeAt a_o_before a_o_behind a_o_tape x_o_taped x_o_here x_o_fault x_o_open x_o_laid a_o_act a_o_with a_o_lineMany a_o_testEnd a_o_lineEnd a_o_facts a_o_pile x_o_hasLaw a_o_way a_o_bestWay x_o_bestMany a_o_wasHad a_o_wasLast x_o_wasAt x_o_wasNight x_o_hasImage x_o_keptLamps x_o_keptAt x_o_keptNight x_o_keptSpent a_o_keptHad a_o_keptTold a_o_keptLast a_o_keptOften x_o_bodies a_o_kind x_o_traces a_o_traced a_o_holds a_o_size a_o_elements a_o_shifted, A_Z dA a_o_had 1024 u9, A_I dA a_o_last 10 u10, A_I dA a_o_often 10 x_o_often, A_I dA a_o_holds 6 x_o_holds, A_Z dA a_o_told 1024 x_o_told, A_I dA a_o_facts 4 x_o_facts, A_I dA a_o_lineMany 2 x_o_lineMany, A_S dA a_o_testEnd 122 x_o_testEnd, A_B dA a_o_act 260 x_o_act, A_I dA a_o_pile 130 x_o_pile, A_I dA a_o_with 260 x_o_with, A_S dA a_o_lineEnd 122 x_o_lineEnd, A_Z dA a_o_barred 1024 x_o_barred, A_Z dA a_o_wasHad 1024 x_o_wasHad, A_I dA a_o_wasLast 10 x_o_wasLast, A_I dA a_o_size 6 x_o_size, A_J dA a_o_elements 360 x_o_elements]) C (c_Mo_layBack (l := l) (D := D) (dA := dA) (a_o := a_o) (a_o_had := a_o_had) (a_o_told := a_o_told) (a_o_barred := a_o_barred) (a_o_cost := a_o_cost) (a_o_last := a_o_last) (a_o_often := a_o_often) (a_o_changeOf := a_o_changeOf) (a_o_changeAt := a_o_changeAt) (a_o_before := a_o_before) (a_o_behind := a_o_behind) (a_o_tape := a_o_tape) (a_o_act := a_o_act) (a_o_with := a_o_with) (a_o_lineMany := a_o_lineMany) (a_o_testEnd := a_o_testEnd) (a_o_lineEnd := a_o_lineEnd) (a_o_facts := a_o_facts) (a_o_pile := a_o_pile) (a_o_way := a_o_way) (a_o_bestWay := a_o_bestWay) (a_o_wasHad := a_o_wasHad) (a_o_wasLast := a_o_wasLast) (a_o_keptHad := a_o_keptHad) (a_o_keptTold := a_o_keptTold) (a_o_keptLast := a_o_keptLast) (a_o_keptOften := a_o_keptOften) (a_o_kind := a_o_kind) (a_o_traced := a_o_traced) (a_o_holds := a_o_holds) (a_o_size := a_o_size) (a_o_elements := a_o_elements) (a_o_shifted := a_o_shifted) (x_o_code := x_o_code) (x_o_lamps := x_o_lamps) (x_o_spent := x_o_spent) (x_o_rest := x_o_rest) (x_o_shy := x_o_shy) (x_o_hasBegun := x_o_hasBegun) (x_o_doneMany := x_o_doneMany) (x_o_undoneMany := x_o_undoneMany) (x_o_taped := x_o_taped) (x_o_here := x_o_here) (x_o_fault := x_o_fault) (x_o_open := x_o_open) (x_o_laid := x_o_laid) (x_o_hasLaw := x_o_hasLaw) (x_o_bestMany := x_o_bestMany) (x_o_hasImage := x_o_hasImage) (x_o_keptLamps := x_o_keptLamps) (x_o_keptAt := x_o_keptAt) (x_o_keptNight := x_o_keptNight) (x_o_keptSpent := x_o_keptSpent) (x_o_bodies := x_o_bodies) (x_o_traces := x_o_traces)   hc11) yy_Mo_layBack kf_Mo rfl mw_6_83 d_Mo_judge_104 rfl [] rfl rfl (Nat.le_of_ble_eq_true rfl) ⟨Nat.le_of_ble_eq_true rfl, Nat.le_of_ble_eq_true rfl⟩ rfl rfl (Nat.zero_le _) (Nat.zero_le _) 0 rfl [0, 14, 1, 15, 2] rfl (by decide +kernel) rfl (g_lay_sel _ _ _ _ [(0, true), (2, true), (4, true), (3, false), (4, false), (5, false), (6, false), (7, false), (8, false), (9, false), (10, false), (11, false), (12, false), (13, false), (1, true), (3, true), (16, false), (17, false)] (by decide +kernel) rfl (by decide +kernel) rfl rfl) rfl ?_
  refine g_iload_n (pc' := 108) C 1 d_Mo_judge_107 rfl rfl ?_
  replace hf := g_o2 hf; obtain ⟨h1, hf⟩ := hf; subst h1
  replace hf := g_o2 hf; obtain ⟨h1, hf⟩ := hf; subst h1
  replace hf := g_o2 hf; obtain ⟨h1, hf⟩ := hf; subst h1
  replace hf := g_o2 hf; obtain ⟨h1, hf⟩ := hf; subst h1
  replace hf := g_o2 hf; obtain ⟨h1, hf⟩ := hf; subst h1
  replace hf := g_o2 hf; obtain ⟨h1, hf⟩ := hf; subst h1
  replace hf := g_o2 hf; obtain ⟨h1, hf⟩ := hf; subst h1
  replace hf := g_o2 hf; obtain ⟨h1, hf⟩ := hf; subst h1
  replace hf := g_o2 hf; obtain ⟨h1, hf⟩ := hf; subst h1
  replace hf := g_o2 hf; obtain ⟨h1, hf⟩ := hf; subst h1
  replace hf := g_o2 hf; obtain ⟨h1, hf⟩ := hf; subst h1
  replace hf := g_o2 hf; obtain ⟨h1, hf⟩ := hf; subst h1
  replace hf := g_o2 hf; obtain ⟨h1, hf⟩ := hf; subst h1
  replace hf := g_o2 hf; obtain ⟨h1, hf⟩ := hf; subst h1
  replace hf := Option.some.inj hf; subst hf
  exact g_iret C d_Mo_judge_108 () rfl
def f_Mo_judge_L53   : Nat → Int32 → Int32 → Int32 → Int32 → Int32 → Int32 → Int32 → Int32 → Int32 → Bool → Int32 → Int32 → (Nat → Int32) → (Nat → Int32) → (Nat → Int32) → (Nat → Int32) → (Nat → Int32) → (Nat → Int32) → (Nat → Int32) → (Nat → Int32) → (Nat → Int32) → (Nat → Int64) → Option (Int32 × Int32 × Int32 × Int32 × Bool × Int32 × Int32 × (Nat → Int32) × (Nat → Int32) × (Nat → Int32) × (Nat → Int32) × (Nat → Int32) × (Nat → Int32) × (Nat → Int32) × (Nat → Int32))
  | 0, _, _, _, _, _, _, _, _, _, _, _, _, _, _, _, _, _, _, _, _, _, _ => none
  | n + 1, v1, v2, v3, x_o_lamps, x_o_at, x_o_night, x_o_spent, x_o_rest, x_o_shy, x_o_hasBegun, x_o_wasAt, x_o_wasNight, x_o_had, x_o_last, x_o_often, x_o_facts, x_o_pile, x_o_barred, x_o_wasHad, x_o_wasLast, x_o_size, x_o_elements =>
    if v1 < 0 ∨ 6 ≤ Int32.toNatClampNeg v1 then none else
    if (x_o_size (Int32.toNatClampNeg v1)) ≤ v3 then
      (f_Mo_judge_L103  v2 x_o_at x_o_night x_o_spent x_o_hasBegun x_o_wasAt x_o_wasNight x_o_had x_o_last x_o_often x_o_facts x_o_pile x_o_barred x_o_wasHad x_o_wasLast)
    else
      (if 0 ≤ v2 then
        (f_Mo_judge_L103  v2 x_o_at x_o_night x_o_spent x_o_hasBegun x_o_wasAt x_o_wasNight x_o_had x_o_last x_o_often x_o_facts x_o_pile x_o_barred x_o_wasHad x_o_wasLast)
      else
        (if (((60 : Int32) * v1) + v3) < 0 ∨ 360 ≤ Int32.toNatClampNeg (((60 : Int32) * v1) + v3) then none else
        if v3 = 0 then
          (f_Mo_judge_L89 (f_Mo_judge_L53  n) v1 v2 v3 true (Int64.toInt32 (x_o_elements (Int32.toNatClampNeg (((60 : Int32) * v1) + v3)))) x_o_lamps x_o_at x_o_night x_o_spent x_o_rest x_o_shy x_o_hasBegun x_o_wasAt x_o_wasNight x_o_had x_o_last x_o_often x_o_facts x_o_pile x_o_barred x_o_wasHad x_o_wasLast x_o_size x_o_elements)
        else
          (f_Mo_judge_L89 (f_Mo_judge_L53  n) v1 v2 v3 false (Int64.toInt32 (x_o_elements (Int32.toNatClampNeg (((60 : Int32) * v1) + v3)))) x_o_lamps x_o_at x_o_night x_o_spent x_o_rest x_o_shy x_o_hasBegun x_o_wasAt x_o_wasNight x_o_had x_o_last x_o_often x_o_facts x_o_pile x_o_barred x_o_wasHad x_o_wasLast x_o_size x_o_elements)))
set_option maxRecDepth 20000 in
theorem w_Mo_judge_L53 {p : Program} {l : Launch} {e : Env} {s : State} {m : MethodId} {args : Array Value} {below : List Frame} {meth : Method} {c : Code} {D : va_G} {dA : Nat → ClassId} {A : Nat → Prop} (C : GC p s m args meth c prog_13_method_65_code 4 "OneLampModel" (some .int) D dA A) {a_o a_o_had a_o_told a_o_barred a_o_cost a_o_last a_o_often a_o_changeOf a_o_changeAt a_o_before a_o_behind a_o_tape a_o_act a_o_with a_o_lineMany a_o_testEnd a_o_lineEnd a_o_facts a_o_pile a_o_way a_o_bestWay a_o_wasHad a_o_wasLast a_o_keptHad a_o_keptTold a_o_keptLast a_o_keptOften a_o_kind a_o_traced a_o_holds a_o_size a_o_elements a_o_shifted : Nat} {x_o_code : Int32} {x_o_doneMany : Int32} {x_o_undoneMany : Int32} {x_o_taped : Int32} {x_o_here : Int32} {x_o_fault : Int32} {x_o_open : Int32} {x_o_laid : Int32} {x_o_hasLaw : Bool} {x_o_bestMany : Int32} {x_o_hasImage : Bool} {x_o_keptLamps : Int32} {x_o_keptAt : Int32} {x_o_keptNight : Int32} {x_o_keptSpent : Int32} {x_o_bodies : Int32} {x_o_traces : Int32} {x_o_holds : Nat → Int32} {x_o_told : Nat → Int32} {x_o_lineMany : Nat → Int32} {x_o_testEnd : Nat → Int32} {x_o_act : Nat → Int32} {x_o_with : Nat → Int32} {x_o_lineEnd : Nat → Int32} {r0 : Int32} {o_x_o_at : Int32} {o_x_o_night : Int32} {o_x_o_spent : Int32} {o_x_o_hasBegun : Bool} {o_x_o_wasAt : Int32} {o_x_o_wasNight : Int32} {o_x_o_had : Nat → Int32} {o_x_o_last : Nat → Int32} {o_x_o_often : Nat → Int32} {o_x_o_facts : Nat → Int32} {o_x_o_pile : Nat → Int32} {o_x_o_barred : Nat → Int32} {o_x_o_wasHad : Nat → Int32} {o_x_o_wasLast : Nat → Int32}    : ∀ (n : Nat) (v1 : Int32) (v2 : Int32) (v3 : Int32) (x_o_lamps : Int32) (x_o_at : Int32) (x_o_night : Int32) (x_o_spent : Int32) (x_o_rest : Int32) (x_o_shy : Int32) (x_o_hasBegun : Bool) (x_o_wasAt : Int32) (x_o_wasNight : Int32) (x_o_had : Nat → Int32) (x_o_last : Nat → Int32) (x_o_often : Nat → Int32) (x_o_facts : Nat → Int32) (x_o_pile : Nat → Int32) (x_o_barred : Nat → Int32) (x_o_wasHad : Nat → Int32) (x_o_wasLast : Nat → Int32) (x_o_size : Nat → Int32) (x_o_elements : Nat → Int64), f_Mo_judge_L53   n v1 v2 v3 x_o_lamps x_o_at x_o_night x_o_spent x_o_rest x_o_shy x_o_hasBegun x_o_wasAt x_o_wasNight x_o_had x_o_last x_o_often x_o_facts x_o_pile x_o_barred x_o_wasHad x_o_wasLast x_o_size x_o_elements = some (r0, o_x_o_at, o_x_o_night, o_x_o_spent, o_x_o_hasBegun, o_x_o_wasAt, o_x_o_wasNight, o_x_o_had, o_x_o_last, o_x_o_often, o_x_o_facts, o_x_o_pile, o_x_o_barred, o_x_o_wasHad, o_x_o_wasLast) → GG p l e { frames := 5, cells := 0, slots := 0, locals := 114 } s m args below meth c 4 D A 0 0 (MQ below (cQ D A (some (.int r0)) (fun _ : Unit => [O_Mo a_o x_o_code x_o_lamps o_x_o_at o_x_o_night o_x_o_spent x_o_rest x_o_shy a_o_had a_o_told a_o_barred a_o_cost a_o_last a_o_often o_x_o_hasBegun x_o_doneMany x_o_undoneMany a_o_changeOf a_o_changeAt a_o_before a_o_behind a_o_tape x_o_taped x_o_here x_o_fault x_o_open x_o_laid a_o_act a_o_with a_o_lineMany a_o_testEnd a_o_lineEnd a_o_facts a_o_pile x_o_hasLaw a_o_way a_o_bestWay x_o_bestMany a_o_wasHad a_o_wasLast o_x_o_wasAt o_x_o_wasNight x_o_hasImage x_o_keptLamps x_o_keptAt x_o_keptNight x_o_keptSpent a_o_keptHad a_o_keptTold a_o_keptLast a_o_keptOften x_o_bodies a_o_kind x_o_traces a_o_traced a_o_holds a_o_size a_o_elements a_o_shifted, A_Z dA a_o_had 1024 o_x_o_had, A_I dA a_o_last 10 o_x_o_last, A_I dA a_o_often 10 o_x_o_often, A_I dA a_o_holds 6 x_o_holds, A_Z dA a_o_told 1024 x_o_told, A_I dA a_o_facts 4 o_x_o_facts, A_I dA a_o_lineMany 2 x_o_lineMany, A_S dA a_o_testEnd 122 x_o_testEnd, A_B dA a_o_act 260 x_o_act, A_I dA a_o_pile 130 o_x_o_pile, A_I dA a_o_with 260 x_o_with, A_S dA a_o_lineEnd 122 x_o_lineEnd, A_Z dA a_o_barred 1024 o_x_o_barred, A_Z dA a_o_wasHad 1024 o_x_o_wasHad, A_I dA a_o_wasLast 10 o_x_o_wasLast, A_I dA a_o_size 6 x_o_size, A_J dA a_o_elements 360 x_o_elements])) args s 0 0 A) 53 [(0, .ref a_o), (1, .int v1), (2, .int v2), (3, .int v3)] [] [O_Mo a_o x_o_code x_o_lamps x_o_at x_o_night x_o_spent x_o_rest x_o_shy a_o_had a_o_told a_o_barred a_o_cost a_o_last a_o_often x_o_hasBegun x_o_doneMany x_o_undoneMany a_o_changeOf a_o_changeAt a_o_before a_o_behind a_o_tape x_o_taped x_o_here x_o_fault x_o_open x_o_laid a_o_act a_o_with a_o_lineMany a_o_testEnd a_o_lineEnd a_o_facts a_o_pile x_o_hasLaw a_o_way a_o_bestWay x_o_bestMany a_o_wasHad a_o_wasLast x_o_wasAt x_o_wasNight x_o_hasImage x_o_keptLamps x_o_keptAt x_o_keptNight x_o_keptSpent a_o_keptHad a_o_keptTold a_o_keptLast a_o_keptOften x_o_bodies a_o_kind x_o_traces a_o_traced a_o_holds a_o_size a_o_elements a_o_shifted, A_Z dA a_o_had 1024 x_o_had, A_I dA a_o_last 10 x_o_last, A_I dA a_o_often 10 x_o_often, A_I dA a_o_holds 6 x_o_holds, A_Z dA a_o_told 1024 x_o_told, A_I dA a_o_facts 4 x_o_facts, A_I dA a_o_lineMany 2 x_o_lineMany, A_S dA a_o_testEnd 122 x_o_testEnd, A_B dA a_o_act 260 x_o_act, A_I dA a_o_pile 130 x_o_pile, A_I dA a_o_with 260 x_o_with, A_S dA a_o_lineEnd 122 x_o_lineEnd, A_Z dA a_o_barred 1024 x_o_barred, A_Z dA a_o_wasHad 1024 x_o_wasHad, A_I dA a_o_wasLast 10 x_o_wasLast, A_I dA a_o_size 6 x_o_size, A_J dA a_o_elements 360 x_o_elements] := by
  intro n
  induction n with
  | zero =>
    intro v1 v2 v3 x_o_lamps x_o_at x_o_night x_o_spent x_o_rest x_o_shy x_o_hasBegun x_o_wasAt x_o_wasNight x_o_had x_o_last x_o_often x_o_facts x_o_pile x_o_barred x_o_wasHad x_o_wasLast x_o_size x_o_elements hf
    cases hf
  | succ n ih =>
    intro v1 v2 v3 x_o_lamps x_o_at x_o_night x_o_spent x_o_rest x_o_shy x_o_hasBegun x_o_wasAt x_o_wasNight x_o_had x_o_last x_o_often x_o_facts x_o_pile x_o_barred x_o_wasHad x_o_wasLast x_o_size x_o_elements hf
    unfold f_Mo_judge_L53 at hf
    refine g_iload_n (pc' := 54) C 3 d_Mo_judge_53 rfl rfl ?_
    refine g_aload_n (pc' := 55) C 0 d_Mo_judge_54 rfl rfl ?_
    refine g_get (pc' := 58) C kf_Mo 55 mw_4_193 d_Mo_judge_55 rfl 0 rfl (by decide) rfl ?_
    refine g_iload_n (pc' := 59) C 1 d_Mo_judge_58 rfl rfl ?_
    have hb := g_ck hf
    replace hf := g_in hb hf
    refine g_iald (pc' := 60) C d_Mo_judge_59 rfl 16 rfl hb ?_
    refine g_icmp_ge (pc' := 63) (tgt := 103) C d_Mo_judge_60 rfl rfl (fun h => ?_) (fun h => ?_)
    · replace hf := g_ip h hf
      refine g_lv (lv' := [(0, .ref a_o), (2, .int v2)]) [0, 2] rfl ?_
      exact w_Mo_judge_L103 (a_o := a_o) (a_o_had := a_o_had) (a_o_told := a_o_told) (a_o_barred := a_o_barred) (a_o_cost := a_o_cost) (a_o_last := a_o_last) (a_o_often := a_o_often) (a_o_changeOf := a_o_changeOf) (a_o_changeAt := a_o_changeAt) (a_o_before := a_o_before) (a_o_behind := a_o_behind) (a_o_tape := a_o_tape) (a_o_act := a_o_act) (a_o_with := a_o_with) (a_o_lineMany := a_o_lineMany) (a_o_testEnd := a_o_testEnd) (a_o_lineEnd := a_o_lineEnd) (a_o_facts := a_o_facts) (a_o_pile := a_o_pile) (a_o_way := a_o_way) (a_o_bestWay := a_o_bestWay) (a_o_wasHad := a_o_wasHad) (a_o_wasLast := a_o_wasLast) (a_o_keptHad := a_o_keptHad) (a_o_keptTold := a_o_keptTold) (a_o_keptLast := a_o_keptLast) (a_o_keptOften := a_o_keptOften) (a_o_kind := a_o_kind) (a_o_traced := a_o_traced) (a_o_holds := a_o_holds) (a_o_size := a_o_size) (a_o_elements := a_o_elements) (a_o_shifted := a_o_shifted) C   v2 x_o_at x_o_night x_o_spent x_o_hasBegun x_o_wasAt x_o_wasNight x_o_had x_o_last x_o_often x_o_facts x_o_pile x_o_barred x_o_wasHad x_o_wasLast hf
    · replace hf := g_in h hf
      refine g_iload_n (pc' := 64) C 2 d_Mo_judge_63 rfl rfl ?_
      refine g_if_ge (pc' := 67) (tgt := 103) C d_Mo_judge_64 rfl rfl (fun h => ?_) (fun h => ?_)
      · replace hf := g_ip h hf
        refine g_lv (lv' := [(0, .ref a_o), (2, .int v2)]) [0, 2] rfl ?_
        exact w_Mo_judge_L103 (a_o := a_o) (a_o_had := a_o_had) (a_o_told := a_o_told) (a_o_barred := a_o_barred) (a_o_cost := a_o_cost) (a_o_last := a_o_last) (a_o_often := a_o_often) (a_o_changeOf := a_o_changeOf) (a_o_changeAt := a_o_changeAt) (a_o_before := a_o_before) (a_o_behind := a_o_behind) (a_o_tape := a_o_tape) (a_o_act := a_o_act) (a_o_with := a_o_with) (a_o_lineMany := a_o_lineMany) (a_o_testEnd := a_o_testEnd) (a_o_lineEnd := a_o_lineEnd) (a_o_facts := a_o_facts) (a_o_pile := a_o_pile) (a_o_way := a_o_way) (a_o_bestWay := a_o_bestWay) (a_o_wasHad := a_o_wasHad) (a_o_wasLast := a_o_wasLast) (a_o_keptHad := a_o_keptHad) (a_o_keptTold := a_o_keptTold) (a_o_keptLast := a_o_keptLast) (a_o_keptOften := a_o_keptOften) (a_o_kind := a_o_kind) (a_o_traced := a_o_traced) (a_o_holds := a_o_holds) (a_o_size := a_o_size) (a_o_elements := a_o_elements) (a_o_shifted := a_o_shifted) C   v2 x_o_at x_o_night x_o_spent x_o_hasBegun x_o_wasAt x_o_wasNight x_o_had x_o_last x_o_often x_o_facts x_o_pile x_o_barred x_o_wasHad x_o_wasLast hf
      · replace hf := g_in h hf
        refine g_aload_n (pc' := 68) C 0 d_Mo_judge_67 rfl rfl ?_
        refine g_aload_n (pc' := 69) C 0 d_Mo_judge_68 rfl rfl ?_
        refine g_get (pc' := 72) C kf_Mo 56 mw_4_194 d_Mo_judge_69 rfl 0 rfl (by decide) rfl ?_
        refine g_bipush (pc' := 74) (v := 60) C d_Mo_judge_72 rfl rfl ?_
        refine g_iload_n (pc' := 75) C 1 d_Mo_judge_74 rfl rfl ?_
        refine g_imul (pc' := 76) C d_Mo_judge_75 rfl ?_
        refine g_iload_n (pc' := 77) C 3 d_Mo_judge_76 rfl rfl ?_
        refine g_iadd (pc' := 78) C d_Mo_judge_77 rfl ?_
        have hb := g_ck hf
        replace hf := g_in hb hf
        refine g_lald (pc' := 79) C d_Mo_judge_78 rfl 17 rfl hb ?_
        refine g_l2i (pc' := 80) C d_Mo_judge_79 rfl ?_
        refine g_iload_n (pc' := 81) C 3 d_Mo_judge_80 rfl rfl ?_
        refine g_if_ne (pc' := 84) (tgt := 88) C d_Mo_judge_81 rfl rfl (fun h => ?_) (fun h => ?_)
        · replace hf := g_in h hf
          refine g_iconst (pc' := 89) (v := 0) C d_Mo_judge_88 rfl rfl ?_
          exact w_Mo_judge_L89 (a_o := a_o) (a_o_had := a_o_had) (a_o_told := a_o_told) (a_o_barred := a_o_barred) (a_o_cost := a_o_cost) (a_o_last := a_o_last) (a_o_often := a_o_often) (a_o_changeOf := a_o_changeOf) (a_o_changeAt := a_o_changeAt) (a_o_before := a_o_before) (a_o_behind := a_o_behind) (a_o_tape := a_o_tape) (a_o_act := a_o_act) (a_o_with := a_o_with) (a_o_lineMany := a_o_lineMany) (a_o_testEnd := a_o_testEnd) (a_o_lineEnd := a_o_lineEnd) (a_o_facts := a_o_facts) (a_o_pile := a_o_pile) (a_o_way := a_o_way) (a_o_bestWay := a_o_bestWay) (a_o_wasHad := a_o_wasHad) (a_o_wasLast := a_o_wasLast) (a_o_keptHad := a_o_keptHad) (a_o_keptTold := a_o_keptTold) (a_o_keptLast := a_o_keptLast) (a_o_keptOften := a_o_keptOften) (a_o_kind := a_o_kind) (a_o_traced := a_o_traced) (a_o_holds := a_o_holds) (a_o_size := a_o_size) (a_o_elements := a_o_elements) (a_o_shifted := a_o_shifted) C  (f_Mo_judge_L53  n) ih v1 v2 v3 false (Int64.toInt32 (x_o_elements (Int32.toNatClampNeg (((60 : Int32) * v1) + v3)))) x_o_lamps x_o_at x_o_night x_o_spent x_o_rest x_o_shy x_o_hasBegun x_o_wasAt x_o_wasNight x_o_had x_o_last x_o_often x_o_facts x_o_pile x_o_barred x_o_wasHad x_o_wasLast x_o_size x_o_elements hf
        · replace hf := g_ip h hf
          refine g_iconst (pc' := 85) (v := 1) C d_Mo_judge_84 rfl rfl ?_
          refine g_goto (tgt := 89) C d_Mo_judge_85 rfl ?_
          exact w_Mo_judge_L89 (a_o := a_o) (a_o_had := a_o_had) (a_o_told := a_o_told) (a_o_barred := a_o_barred) (a_o_cost := a_o_cost) (a_o_last := a_o_last) (a_o_often := a_o_often) (a_o_changeOf := a_o_changeOf) (a_o_changeAt := a_o_changeAt) (a_o_before := a_o_before) (a_o_behind := a_o_behind) (a_o_tape := a_o_tape) (a_o_act := a_o_act) (a_o_with := a_o_with) (a_o_lineMany := a_o_lineMany) (a_o_testEnd := a_o_testEnd) (a_o_lineEnd := a_o_lineEnd) (a_o_facts := a_o_facts) (a_o_pile := a_o_pile) (a_o_way := a_o_way) (a_o_bestWay := a_o_bestWay) (a_o_wasHad := a_o_wasHad) (a_o_wasLast := a_o_wasLast) (a_o_keptHad := a_o_keptHad) (a_o_keptTold := a_o_keptTold) (a_o_keptLast := a_o_keptLast) (a_o_keptOften := a_o_keptOften) (a_o_kind := a_o_kind) (a_o_traced := a_o_traced) (a_o_holds := a_o_holds) (a_o_size := a_o_size) (a_o_elements := a_o_elements) (a_o_shifted := a_o_shifted) C  (f_Mo_judge_L53  n) ih v1 v2 v3 true (Int64.toInt32 (x_o_elements (Int32.toNatClampNeg (((60 : Int32) * v1) + v3)))) x_o_lamps x_o_at x_o_night x_o_spent x_o_rest x_o_shy x_o_hasBegun x_o_wasAt x_o_wasNight x_o_had x_o_last x_o_often x_o_facts x_o_pile x_o_barred x_o_wasHad x_o_wasLast x_o_size x_o_elements hf
def f_Mo_judge  (p1 : Int32) (x_o_lamps : Int32) (x_o_at : Int32) (x_o_night : Int32) (x_o_spent : Int32) (x_o_rest : Int32) (x_o_shy : Int32) (x_o_hasBegun : Bool) (x_o_hasLaw : Bool) (x_o_wasAt : Int32) (x_o_wasNight : Int32) (x_o_had : Nat → Int32) (x_o_last : Nat → Int32) (x_o_often : Nat → Int32) (x_o_holds : Nat → Int32) (x_o_told : Nat → Int32) (x_o_facts : Nat → Int32) (x_o_lineMany : Nat → Int32) (x_o_testEnd : Nat → Int32) (x_o_act : Nat → Int32) (x_o_pile : Nat → Int32) (x_o_with : Nat → Int32) (x_o_lineEnd : Nat → Int32) (x_o_barred : Nat → Int32) (x_o_wasHad : Nat → Int32) (x_o_wasLast : Nat → Int32) (x_o_size : Nat → Int32) (x_o_elements : Nat → Int64) : Option (Int32 × Int32 × Int32 × Int32 × Bool × Int32 × Int32 × (Nat → Int32) × (Nat → Int32) × (Nat → Int32) × (Nat → Int32) × (Nat → Int32) × (Nat → Int32) × (Nat → Int32) × (Nat → Int32)) :=
  (f_Mo_ready  x_o_at x_o_night x_o_spent x_o_hasBegun x_o_had x_o_last x_o_often).bind fun (u12, u13, u14, u15, u16, u17, u18) =>
  (f_Mo_isShelf  p1).bind fun r20 =>
  if r20 = true then
    (if p1 < 0 ∨ 6 ≤ Int32.toNatClampNeg p1 then none else
    if (x_o_holds (Int32.toNatClampNeg p1)) = (-1 : Int32) then
      (some ((-11 : Int32), u12, u13, u14, u15, x_o_wasAt, x_o_wasNight, u16, u17, u18, x_o_facts, x_o_pile, x_o_barred, x_o_wasHad, x_o_wasLast))
    else
      (if p1 < 0 ∨ 6 ≤ Int32.toNatClampNeg p1 then none else
      if (x_o_holds (Int32.toNatClampNeg p1)) = (-3 : Int32) then
        ((f_Mo_findBarred  x_o_lamps x_o_hasLaw x_o_told x_o_facts x_o_lineMany x_o_testEnd x_o_act x_o_pile x_o_with x_o_lineEnd x_o_barred).bind fun (u22, u23, u24) =>
        (f_Mo_keepNow  u12 u13 x_o_wasAt x_o_wasNight u16 x_o_wasHad u17 x_o_wasLast).bind fun (u26, u27, u28, u29) =>
        f_Mo_judge_L53  3000 p1 (-2 : Int32) (0 : Int32) x_o_lamps u12 u13 u14 x_o_rest x_o_shy u15 u26 u27 u16 u17 u18 u22 u23 u24 u28 u29 x_o_size x_o_elements)
      else
        (some ((-12 : Int32), u12, u13, u14, u15, x_o_wasAt, x_o_wasNight, u16, u17, u18, x_o_facts, x_o_pile, x_o_barred, x_o_wasHad, x_o_wasLast))))
  else
    (some ((-1 : Int32), u12, u13, u14, u15, x_o_wasAt, x_o_wasNight, u16, u17, u18, x_o_facts, x_o_pile, x_o_barred, x_o_wasHad, x_o_wasLast))
set_option maxRecDepth 20000 in
theorem c_Mo_judge {l : Launch} {D : va_G} {dA : Nat → ClassId} {a_o a_o_had a_o_told a_o_barred a_o_cost a_o_last a_o_often a_o_changeOf a_o_changeAt a_o_before a_o_behind a_o_tape a_o_act a_o_with a_o_lineMany a_o_testEnd a_o_lineEnd a_o_facts a_o_pile a_o_way a_o_bestWay a_o_wasHad a_o_wasLast a_o_keptHad a_o_keptTold a_o_keptLast a_o_keptOften a_o_kind a_o_traced a_o_holds a_o_size a_o_elements a_o_shifted : Nat} {x_o_code : Int32} {x_o_doneMany : Int32} {x_o_undoneMany : Int32} {x_o_taped : Int32} {x_o_here : Int32} {x_o_fault : Int32} {x_o_open : Int32} {x_o_laid : Int32} {x_o_bestMany : Int32} {x_o_hasImage : Bool} {x_o_keptLamps : Int32} {x_o_keptAt : Int32} {x_o_keptNight : Int32} {x_o_keptSpent : Int32} {x_o_bodies : Int32} {x_o_traces : Int32} {p1 : Int32} {x_o_lamps : Int32} {x_o_at : Int32} {x_o_night : Int32} {x_o_spent : Int32} {x_o_rest : Int32} {x_o_shy : Int32} {x_o_hasBegun : Bool} {x_o_hasLaw : Bool} {x_o_wasAt : Int32} {x_o_wasNight : Int32} {x_o_had : Nat → Int32} {x_o_last : Nat → Int32} {x_o_often : Nat → Int32} {x_o_holds : Nat → Int32} {x_o_told : Nat → Int32} {x_o_facts : Nat → Int32} {x_o_lineMany : Nat → Int32} {x_o_testEnd : Nat → Int32} {x_o_act : Nat → Int32} {x_o_pile : Nat → Int32} {x_o_with : Nat → Int32} {x_o_lineEnd : Nat → Int32} {x_o_barred : Nat → Int32} {x_o_wasHad : Nat → Int32} {x_o_wasLast : Nat → Int32} {x_o_size : Nat → Int32} {x_o_elements : Nat → Int64} {r0 : Int32} {o_x_o_at : Int32} {o_x_o_night : Int32} {o_x_o_spent : Int32} {o_x_o_hasBegun : Bool} {o_x_o_wasAt : Int32} {o_x_o_wasNight : Int32} {o_x_o_had : Nat → Int32} {o_x_o_last : Nat → Int32} {o_x_o_often : Nat → Int32} {o_x_o_facts : Nat → Int32} {o_x_o_pile : Nat → Int32} {o_x_o_barred : Nat → Int32} {o_x_o_wasHad : Nat → Int32} {o_x_o_wasLast : Nat → Int32}   (hf : f_Mo_judge  p1 x_o_lamps x_o_at x_o_night x_o_spent x_o_rest x_o_shy x_o_hasBegun x_o_hasLaw x_o_wasAt x_o_wasNight x_o_had x_o_last x_o_often x_o_holds x_o_told x_o_facts x_o_lineMany x_o_testEnd x_o_act x_o_pile x_o_with x_o_lineEnd x_o_barred x_o_wasHad x_o_wasLast x_o_size x_o_elements = some (r0, o_x_o_at, o_x_o_night, o_x_o_spent, o_x_o_hasBegun, o_x_o_wasAt, o_x_o_wasNight, o_x_o_had, o_x_o_last, o_x_o_often, o_x_o_facts, o_x_o_pile, o_x_o_barred, o_x_o_wasHad, o_x_o_wasLast)) : CT l y_Mo_judge prog_13_method_65_code 4 (some .int) { frames := 5, cells := 0, slots := 0, locals := 114 } D dA [.ref a_o, .int p1] [O_Mo a_o x_o_code x_o_lamps x_o_at x_o_night x_o_spent x_o_rest x_o_shy a_o_had a_o_told a_o_barred a_o_cost a_o_last a_o_often x_o_hasBegun x_o_doneMany x_o_undoneMany a_o_changeOf a_o_changeAt a_o_before a_o_behind a_o_tape x_o_taped x_o_here x_o_fault x_o_open x_o_laid a_o_act a_o_with a_o_lineMany a_o_testEnd a_o_lineEnd a_o_facts a_o_pile x_o_hasLaw a_o_way a_o_bestWay x_o_bestMany a_o_wasHad a_o_wasLast x_o_wasAt x_o_wasNight x_o_hasImage x_o_keptLamps x_o_keptAt x_o_keptNight x_o_keptSpent a_o_keptHad a_o_keptTold a_o_keptLast a_o_keptOften x_o_bodies a_o_kind x_o_traces a_o_traced a_o_holds a_o_size a_o_elements a_o_shifted, A_Z dA a_o_had 1024 x_o_had, A_I dA a_o_last 10 x_o_last, A_I dA a_o_often 10 x_o_often, A_I dA a_o_holds 6 x_o_holds, A_Z dA a_o_told 1024 x_o_told, A_I dA a_o_facts 4 x_o_facts, A_I dA a_o_lineMany 2 x_o_lineMany, A_S dA a_o_testEnd 122 x_o_testEnd, A_B dA a_o_act 260 x_o_act, A_I dA a_o_pile 130 x_o_pile, A_I dA a_o_with 260 x_o_with, A_S dA a_o_lineEnd 122 x_o_lineEnd, A_Z dA a_o_barred 1024 x_o_barred, A_Z dA a_o_wasHad 1024 x_o_wasHad, A_I dA a_o_wasLast 10 x_o_wasLast, A_I dA a_o_size 6 x_o_size, A_J dA a_o_elements 360 x_o_elements] (some (.int r0)) (fun _ : Unit => [O_Mo a_o x_o_code x_o_lamps o_x_o_at o_x_o_night o_x_o_spent x_o_rest x_o_shy a_o_had a_o_told a_o_barred a_o_cost a_o_last a_o_often o_x_o_hasBegun x_o_doneMany x_o_undoneMany a_o_changeOf a_o_changeAt a_o_before a_o_behind a_o_tape x_o_taped x_o_here x_o_fault x_o_open x_o_laid a_o_act a_o_with a_o_lineMany a_o_testEnd a_o_lineEnd a_o_facts a_o_pile x_o_hasLaw a_o_way a_o_bestWay x_o_bestMany a_o_wasHad a_o_wasLast o_x_o_wasAt o_x_o_wasNight x_o_hasImage x_o_keptLamps x_o_keptAt x_o_keptNight x_o_keptSpent a_o_keptHad a_o_keptTold a_o_keptLast a_o_keptOften x_o_bodies a_o_kind x_o_traces a_o_traced a_o_holds a_o_size a_o_elements a_o_shifted, A_Z dA a_o_had 1024 o_x_o_had, A_I dA a_o_last 10 o_x_o_last, A_I dA a_o_often 10 o_x_o_often, A_I dA a_o_holds 6 x_o_holds, A_Z dA a_o_told 1024 x_o_told, A_I dA a_o_facts 4 o_x_o_facts, A_I dA a_o_lineMany 2 x_o_lineMany, A_S dA a_o_testEnd 122 x_o_testEnd, A_B dA a_o_act 260 x_o_act, A_I dA a_o_pile 130 o_x_o_pile, A_I dA a_o_with 260 x_o_with, A_S dA a_o_lineEnd 122 x_o_lineEnd, A_Z dA a_o_barred 1024 o_x_o_barred, A_Z dA a_o_wasHad 1024 o_x_o_wasHad, A_I dA a_o_wasLast 10 o_x_o_wasLast, A_I dA a_o_size 6 x_o_size, A_J dA a_o_elements 360 x_o_elements]) := by
  refine ct_intro "OneLampModel" rfl (by decide +kernel) (Nat.le_of_ble_eq_true rfl) [(0, .ref a_o), (1, .int p1)] rfl (fun _ C => ?_)
  unfold f_Mo_judge at hf
  refine g_aload_n (pc' := 1) C 0 d_Mo_judge_0 rfl rfl ?_
  replace hf := g_bi hf; obtain ⟨⟨u12, u13, u14, u15, u16, u17, u18⟩, hc19, hf⟩ := hf
  dsimp only at hf
  refine g_callV (pc' := 4) (st1 := []) (ws1 := [O_Mo a_o x_o_code x_o_lamps u12 u13 u14 x_o_rest x_o_shy a_o_had a_o_told a_o_barred a_o_cost a_o_last a_o_often u15 x_o_doneMany x_o_undoneMany a_o_changeOf a_o_changeAt a_o_before a_o_behind a_o_tape x_o_taped x_o_here x_o_fault x_o_open x_o_laid a_o_act a_o_with a_o_lineMany a_o_testEnd a_o_lineEnd a_o_facts a_o_pile x_o_hasLaw a_o_way a_o_bestWay x_o_bestMany a_o_wasHad a_o_wasLast x_o_wasAt x_o_wasNight x_o_hasImage x_o_keptLamps x_o_keptAt x_o_keptNight x_o_keptSpent a_o_keptHad a_o_keptTold a_o_keptLast a_o_keptOften x_o_bodies a_o_kind x_o_traces a_o_traced a_o_holds a_o_size a_o_elements a_o_shifted, A_Z dA a_o_had 1024 u16, A_I dA a_o_last 10 u17, A_I dA a_o_often 10 u18, A_I dA a_o_holds 6 x_o_holds, A_Z dA a_o_told 1024 x_o_told, A_I dA a_o_facts 4 x_o_facts, A_I dA a_o_lineMany 2 x_o_lineMany, A_S dA a_o_testEnd 122 x_o_testEnd, A_B dA a_o_act 260 x_o_act, A_I dA a_o_pile 130 x_o_pile, A_I dA a_o_with 260 x_o_with, A_S dA a_o_lineEnd 122 x_o_lineEnd, A_Z dA a_o_barred 1024 x_o_barred, A_Z dA a_o_wasHad 1024 x_o_wasHad, A_I dA a_o_wasLast 10 x_o_wasLast, A_I dA a_o_size 6 x_o_size, A_J dA a_o_elements 360 x_o_elements]) C (c_Mo_ready (l := l) (D := D) (dA := dA) (a_o := a_o) (a_o_had := a_o_had) (a_o_told := a_o_told) (a_o_barred := a_o_barred) (a_o_cost := a_o_cost) (a_o_last := a_o_last) (a_o_often := a_o_often) (a_o_changeOf := a_o_changeOf) (a_o_changeAt := a_o_changeAt) (a_o_before := a_o_before) (a_o_behind := a_o_behind) (a_o_tape := a_o_tape) (a_o_act := a_o_act) (a_o_with := a_o_with) (a_o_lineMany := a_o_lineMany) (a_o_testEnd := a_o_testEnd) (a_o_lineEnd := a_o_lineEnd) (a_o_facts := a_o_facts) (a_o_pile := a_o_pile) (a_o_way := a_o_way) (a_o_bestWay := a_o_bestWay) (a_o_wasHad := a_o_wasHad) (a_o_wasLast := a_o_wasLast) (a_o_keptHad := a_o_keptHad) (a_o_keptTold := a_o_keptTold) (a_o_keptLast := a_o_keptLast) (a_o_keptOften := a_o_keptOften) (a_o_kind := a_o_kind) (a_o_traced := a_o_traced) (a_o_holds := a_o_holds) (a_o_size := a_o_size) (a_o_elements := a_o_elements) (a_o_shifted := a_o_shifted) (x_o_code := x_o_code) (x_o_lamps := x_o_lamps) (x_o_rest := x_o_rest) (x_o_shy := x_o_shy) (x_o_doneMany := x_o_doneMany) (x_o_undoneMany := x_o_undoneMany) (x_o_taped := x_o_taped) (x_o_here := x_o_here) (x_o_fault := x_o_fault) (x_o_open := x_o_open) (x_o_laid := x_o_laid) (x_o_hasLaw := x_o_hasLaw) (x_o_bestMany := x_o_bestMany) (x_o_wasAt := x_o_wasAt) (x_o_wasNight := x_o_wasNight) (x_o_hasImage := x_o_hasImage) (x_o_keptLamps := x_o_keptLamps) (x_o_keptAt := x_o_keptAt) (x_o_keptNight := x_o_keptNight) (x_o_keptSpent := x_o_keptSpent) (x_o_bodies := x_o_bodies) (x_o_traces := x_o_traces)   hc19) yy_Mo_ready kf_Mo rfl mw_5_142 d_Mo_judge_1 rfl [] rfl rfl (Nat.le_of_ble_eq_true rfl) ⟨Nat.le_of_ble_eq_true rfl, Nat.le_of_ble_eq_true rfl⟩ rfl rfl (Nat.zero_le _) (Nat.zero_le _) 0 rfl [0, 1, 2, 3] rfl (by decide +kernel) rfl (g_lay_sel _ _ _ _ [(0, true), (1, true), (2, true), (3, true), (4, false), (5, false), (6, false), (7, false), (8, false), (9, false), (10, false), (11, false), (12, false), (13, false), (14, false), (15, false), (16, false), (17, false)] (by decide +kernel) rfl (by decide +kernel) rfl rfl) rfl ?_
  refine g_iload_n (pc' := 5) C 1 d_Mo_judge_4 rfl rfl ?_
  replace hf := g_bi hf; obtain ⟨r20, hc21, hf⟩ := hf
  refine g_callS (pc' := 8) (st1 := [.int (b2i r20)]) (ws1 := [O_Mo a_o x_o_code x_o_lamps u12 u13 u14 x_o_rest x_o_shy a_o_had a_o_told a_o_barred a_o_cost a_o_last a_o_often u15 x_o_doneMany x_o_undoneMany a_o_changeOf a_o_changeAt a_o_before a_o_behind a_o_tape x_o_taped x_o_here x_o_fault x_o_open x_o_laid a_o_act a_o_with a_o_lineMany a_o_testEnd a_o_lineEnd a_o_facts a_o_pile x_o_hasLaw a_o_way a_o_bestWay x_o_bestMany a_o_wasHad a_o_wasLast x_o_wasAt x_o_wasNight x_o_hasImage x_o_keptLamps x_o_keptAt x_o_keptNight x_o_keptSpent a_o_keptHad a_o_keptTold a_o_keptLast a_o_keptOften x_o_bodies a_o_kind x_o_traces a_o_traced a_o_holds a_o_size a_o_elements a_o_shifted, A_Z dA a_o_had 1024 u16, A_I dA a_o_last 10 u17, A_I dA a_o_often 10 u18, A_I dA a_o_holds 6 x_o_holds, A_Z dA a_o_told 1024 x_o_told, A_I dA a_o_facts 4 x_o_facts, A_I dA a_o_lineMany 2 x_o_lineMany, A_S dA a_o_testEnd 122 x_o_testEnd, A_B dA a_o_act 260 x_o_act, A_I dA a_o_pile 130 x_o_pile, A_I dA a_o_with 260 x_o_with, A_S dA a_o_lineEnd 122 x_o_lineEnd, A_Z dA a_o_barred 1024 x_o_barred, A_Z dA a_o_wasHad 1024 x_o_wasHad, A_I dA a_o_wasLast 10 x_o_wasLast, A_I dA a_o_size 6 x_o_size, A_J dA a_o_elements 360 x_o_elements]) C (c_Mo_isShelf (l := l) (D := D) (dA := dA)    hc21) yy_Mo_isShelf mw_5_107 d_Mo_judge_5 rfl [] rfl rfl (Nat.le_of_ble_eq_true rfl) ⟨Nat.le_of_ble_eq_true rfl, Nat.le_of_ble_eq_true rfl⟩ rfl rfl (Nat.zero_le _) (Nat.zero_le _) [] rfl (by decide +kernel) rfl (g_lay_sel _ _ _ _ [(0, false), (1, false), (2, false), (3, false), (4, false), (5, false), (6, false), (7, false), (8, false), (9, false), (10, false), (11, false), (12, false), (13, false), (14, false), (15, false), (16, false), (17, false)] (by decide +kernel) rfl (by decide +kernel) rfl rfl) rfl ?_
  refine g_if_neb (pc' := 11) (tgt := 13) C d_Mo_judge_8 rfl rfl (fun h => ?_) (fun h => ?_)
  · replace hf := g_bt h hf
    refine g_aload_n (pc' := 14) C 0 d_Mo_judge_13 rfl rfl ?_
    refine g_get (pc' := 17) C kf_Mo 54 mw_4_192 d_Mo_judge_14 rfl 0 rfl (by decide) rfl ?_
    refine g_iload_n (pc' := 18) C 1 d_Mo_judge_17 rfl rfl ?_
    have hb := g_ck hf
    replace hf := g_in hb hf
    refine g_iald (pc' := 19) C d_Mo_judge_18 rfl 4 rfl hb ?_
    refine g_iconst (pc' := 20) (v := (-1)) C d_Mo_judge_19 rfl rfl ?_
    refine g_icmp_ne (pc' := 23) (tgt := 26) C d_Mo_judge_20 rfl rfl (fun h => ?_) (fun h => ?_)
    · replace hf := g_in h hf
      refine g_aload_n (pc' := 27) C 0 d_Mo_judge_26 rfl rfl ?_
      refine g_get (pc' := 30) C kf_Mo 54 mw_4_192 d_Mo_judge_27 rfl 0 rfl (by decide) rfl ?_
      refine g_iload_n (pc' := 31) C 1 d_Mo_judge_30 rfl rfl ?_
      have hb := g_ck hf
      replace hf := g_in hb hf
      refine g_iald (pc' := 32) C d_Mo_judge_31 rfl 4 rfl hb ?_
      refine g_bipush (pc' := 34) (v := (-3)) C d_Mo_judge_32 rfl rfl ?_
      refine g_icmp_eq (pc' := 37) (tgt := 40) C d_Mo_judge_34 rfl rfl (fun h => ?_) (fun h => ?_)
      · replace hf := g_ip h hf
        refine g_aload_n (pc' := 41) C 0 d_Mo_judge_40 rfl rfl ?_
        replace hf := g_bi hf; obtain ⟨⟨u22, u23, u24⟩, hc25, hf⟩ := hf
        dsimp only at hf
        refine g_callV (pc' := 44) (st1 := []) (ws1 := [O_Mo a_o x_o_code x_o_lamps u12 u13 u14 x_o_rest x_o_shy a_o_had a_o_told a_o_barred a_o_cost a_o_last a_o_often u15 x_o_doneMany x_o_undoneMany a_o_changeOf a_o_changeAt a_o_before a_o_behind a_o_tape x_o_taped x_o_here x_o_fault x_o_open x_o_laid a_o_act a_o_with a_o_lineMany a_o_testEnd a_o_lineEnd a_o_facts a_o_pile x_o_hasLaw a_o_way a_o_bestWay x_o_bestMany a_o_wasHad a_o_wasLast x_o_wasAt x_o_wasNight x_o_hasImage x_o_keptLamps x_o_keptAt x_o_keptNight x_o_keptSpent a_o_keptHad a_o_keptTold a_o_keptLast a_o_keptOften x_o_bodies a_o_kind x_o_traces a_o_traced a_o_holds a_o_size a_o_elements a_o_shifted, A_Z dA a_o_had 1024 u16, A_I dA a_o_last 10 u17, A_I dA a_o_often 10 u18, A_I dA a_o_holds 6 x_o_holds, A_Z dA a_o_told 1024 x_o_told, A_I dA a_o_facts 4 u22, A_I dA a_o_lineMany 2 x_o_lineMany, A_S dA a_o_testEnd 122 x_o_testEnd, A_B dA a_o_act 260 x_o_act, A_I dA a_o_pile 130 u23, A_I dA a_o_with 260 x_o_with, A_S dA a_o_lineEnd 122 x_o_lineEnd, A_Z dA a_o_barred 1024 u24, A_Z dA a_o_wasHad 1024 x_o_wasHad, A_I dA a_o_wasLast 10 x_o_wasLast, A_I dA a_o_size 6 x_o_size, A_J dA a_o_elements 360 x_o_elements]) C (c_Mo_findBarred (l := l) (D := D) (dA := dA) (a_o := a_o) (a_o_had := a_o_had) (a_o_told := a_o_told) (a_o_barred := a_o_barred) (a_o_cost := a_o_cost) (a_o_last := a_o_last) (a_o_often := a_o_often) (a_o_changeOf := a_o_changeOf) (a_o_changeAt := a_o_changeAt) (a_o_before := a_o_before) (a_o_behind := a_o_behind) (a_o_tape := a_o_tape) (a_o_act := a_o_act) (a_o_with := a_o_with) (a_o_lineMany := a_o_lineMany) (a_o_testEnd := a_o_testEnd) (a_o_lineEnd := a_o_lineEnd) (a_o_facts := a_o_facts) (a_o_pile := a_o_pile) (a_o_way := a_o_way) (a_o_bestWay := a_o_bestWay) (a_o_wasHad := a_o_wasHad) (a_o_wasLast := a_o_wasLast) (a_o_keptHad := a_o_keptHad) (a_o_keptTold := a_o_keptTold) (a_o_keptLast := a_o_keptLast) (a_o_keptOften := a_o_keptOften) (a_o_kind := a_o_kind) (a_o_traced := a_o_traced) (a_o_holds := a_o_holds) (a_o_size := a_o_size) (a_o_elements := a_o_elements) (a_o_shifted := a_o_shifted) (x_o_code := x_o_code) (x_o_at := u12) (x_o_night := u13) (x_o_spent := u14) (x_o_rest := x_o_rest) (x_o_shy := x_o_shy) (x_o_hasBegun := u15) (x_o_doneMany := x_o_doneMany) (x_o_undoneMany := x_o_undoneMany) (x_o_taped := x_o_taped) (x_o_here := x_o_here) (x_o_fault := x_o_fault) (x_o_open := x_o_open) (x_o_laid := x_o_laid) (x_o_bestMany := x_o_bestMany) (x_o_wasAt := x_o_wasAt) (x_o_wasNight := x_o_wasNight) (x_o_hasImage := x_o_hasImage) (x_o_keptLamps := x_o_keptLamps) (x_o_keptAt := x_o_keptAt) (x_o_keptNight := x_o_keptNight) (x_o_keptSpent := x_o_keptSpent) (x_o_bodies := x_o_bodies) (x_o_traces := x_o_traces)   hc25) yy_Mo_findBarred kf_Mo rfl mw_6_11 d_Mo_judge_41 rfl [] rfl rfl (Nat.le_of_ble_eq_true rfl) ⟨Nat.le_of_ble_eq_true rfl, Nat.le_of_ble_eq_true rfl⟩ rfl rfl (Nat.zero_le _) (Nat.zero_le _) 0 rfl [0, 5, 6, 7, 8, 9, 10, 11, 12, 13] rfl (by decide +kernel) rfl (g_lay_sel _ _ _ _ [(0, true), (1, false), (2, false), (3, false), (4, false), (1, true), (2, true), (3, true), (4, true), (5, true), (6, true), (7, true), (8, true), (9, true), (14, false), (15, false), (16, false), (17, false)] (by decide +kernel) rfl (by decide +kernel) rfl rfl) rfl ?_
        refine g_aload_n (pc' := 45) C 0 d_Mo_judge_44 rfl rfl ?_
        replace hf := g_bi hf; obtain ⟨⟨u26, u27, u28, u29⟩, hc30, hf⟩ := hf
        dsimp only at hf
        refine g_callV (pc' := 48) (st1 := []) (ws1 := [O_Mo a_o x_o_code x_o_lamps u12 u13 u14 x_o_rest x_o_shy a_o_had a_o_told a_o_barred a_o_cost a_o_last a_o_often u15 x_o_doneMany x_o_undoneMany a_o_changeOf a_o_changeAt a_o_before a_o_behind a_o_tape x_o_taped x_o_here x_o_fault x_o_open x_o_laid a_o_act a_o_with a_o_lineMany a_o_testEnd a_o_lineEnd a_o_facts a_o_pile x_o_hasLaw a_o_way a_o_bestWay x_o_bestMany a_o_wasHad a_o_wasLast u26 u27 x_o_hasImage x_o_keptLamps x_o_keptAt x_o_keptNight x_o_keptSpent a_o_keptHad a_o_keptTold a_o_keptLast a_o_keptOften x_o_bodies a_o_kind x_o_traces a_o_traced a_o_holds a_o_size a_o_elements a_o_shifted, A_Z dA a_o_had 1024 u16, A_I dA a_o_last 10 u17, A_I dA a_o_often 10 u18, A_I dA a_o_holds 6 x_o_holds, A_Z dA a_o_told 1024 x_o_told, A_I dA a_o_facts 4 u22, A_I dA a_o_lineMany 2 x_o_lineMany, A_S dA a_o_testEnd 122 x_o_testEnd, A_B dA a_o_act 260 x_o_act, A_I dA a_o_pile 130 u23, A_I dA a_o_with 260 x_o_with, A_S dA a_o_lineEnd 122 x_o_lineEnd, A_Z dA a_o_barred 1024 u24, A_Z dA a_o_wasHad 1024 u28, A_I dA a_o_wasLast 10 u29, A_I dA a_o_size 6 x_o_size, A_J dA a_o_elements 360 x_o_elements]) C (c_Mo_keepNow (l := l) (D := D) (dA := dA) (a_o := a_o) (a_o_had := a_o_had) (a_o_told := a_o_told) (a_o_barred := a_o_barred) (a_o_cost := a_o_cost) (a_o_last := a_o_last) (a_o_often := a_o_often) (a_o_changeOf := a_o_changeOf) (a_o_changeAt := a_o_changeAt) (a_o_before := a_o_before) (a_o_behind := a_o_behind) (a_o_tape := a_o_tape) (a_o_act := a_o_act) (a_o_with := a_o_with) (a_o_lineMany := a_o_lineMany) (a_o_testEnd := a_o_testEnd) (a_o_lineEnd := a_o_lineEnd) (a_o_facts := a_o_facts) (a_o_pile := a_o_pile) (a_o_way := a_o_way) (a_o_bestWay := a_o_bestWay) (a_o_wasHad := a_o_wasHad) (a_o_wasLast := a_o_wasLast) (a_o_keptHad := a_o_keptHad) (a_o_keptTold := a_o_keptTold) (a_o_keptLast := a_o_keptLast) (a_o_keptOften := a_o_keptOften) (a_o_kind := a_o_kind) (a_o_traced := a_o_traced) (a_o_holds := a_o_holds) (a_o_size := a_o_size) (a_o_elements := a_o_elements) (a_o_shifted := a_o_shifted) (x_o_code := x_o_code) (x_o_lamps := x_o_lamps) (x_o_spent := u14) (x_o_rest := x_o_rest) (x_o_shy := x_o_shy) (x_o_hasBegun := u15) (x_o_doneMany := x_o_doneMany) (x_o_undoneMany := x_o_undoneMany) (x_o_taped := x_o_taped) (x_o_here := x_o_here) (x_o_fault := x_o_fault) (x_o_open := x_o_open) (x_o_laid := x_o_laid) (x_o_hasLaw := x_o_hasLaw) (x_o_bestMany := x_o_bestMany) (x_o_hasImage := x_o_hasImage) (x_o_keptLamps := x_o_keptLamps) (x_o_keptAt := x_o_keptAt) (x_o_keptNight := x_o_keptNight) (x_o_keptSpent := x_o_keptSpent) (x_o_bodies := x_o_bodies) (x_o_traces := x_o_traces)   hc30) yy_Mo_keepNow kf_Mo rfl mw_6_71 d_Mo_judge_45 rfl [] rfl rfl (Nat.le_of_ble_eq_true rfl) ⟨Nat.le_of_ble_eq_true rfl, Nat.le_of_ble_eq_true rfl⟩ rfl rfl (Nat.zero_le _) (Nat.zero_le _) 0 rfl [0, 1, 14, 2, 15] rfl (by decide +kernel) rfl (g_lay_sel _ _ _ _ [(0, true), (1, true), (3, true), (3, false), (4, false), (5, false), (6, false), (7, false), (8, false), (9, false), (10, false), (11, false), (12, false), (13, false), (2, true), (4, true), (16, false), (17, false)] (by decide +kernel) rfl (by decide +kernel) rfl rfl) rfl ?_
        refine g_bipush (pc' := 50) (v := (-2)) C d_Mo_judge_48 rfl rfl ?_
        refine g_istore_n (pc' := 51) (lv' := [(2, .int (-2)), (0, .ref a_o), (1, .int p1)]) C d_Mo_judge_50 rfl (by decide) rfl ?_
        refine g_iconst (pc' := 52) (v := 0) C d_Mo_judge_51 rfl rfl ?_
        refine g_istore_n (pc' := 53) (lv' := [(3, .int 0), (2, .int (-2)), (0, .ref a_o), (1, .int p1)]) C d_Mo_judge_52 rfl (by decide) rfl ?_
        refine g_lv (lv' := [(0, .ref a_o), (1, .int p1), (2, .int (-2 : Int32)), (3, .int (0 : Int32))]) [2, 3, 1, 0] rfl ?_
        exact w_Mo_judge_L53 (a_o := a_o) (a_o_had := a_o_had) (a_o_told := a_o_told) (a_o_barred := a_o_barred) (a_o_cost := a_o_cost) (a_o_last := a_o_last) (a_o_often := a_o_often) (a_o_changeOf := a_o_changeOf) (a_o_changeAt := a_o_changeAt) (a_o_before := a_o_before) (a_o_behind := a_o_behind) (a_o_tape := a_o_tape) (a_o_act := a_o_act) (a_o_with := a_o_with) (a_o_lineMany := a_o_lineMany) (a_o_testEnd := a_o_testEnd) (a_o_lineEnd := a_o_lineEnd) (a_o_facts := a_o_facts) (a_o_pile := a_o_pile) (a_o_way := a_o_way) (a_o_bestWay := a_o_bestWay) (a_o_wasHad := a_o_wasHad) (a_o_wasLast := a_o_wasLast) (a_o_keptHad := a_o_keptHad) (a_o_keptTold := a_o_keptTold) (a_o_keptLast := a_o_keptLast) (a_o_keptOften := a_o_keptOften) (a_o_kind := a_o_kind) (a_o_traced := a_o_traced) (a_o_holds := a_o_holds) (a_o_size := a_o_size) (a_o_elements := a_o_elements) (a_o_shifted := a_o_shifted) C   3000 p1 (-2 : Int32) (0 : Int32) x_o_lamps u12 u13 u14 x_o_rest x_o_shy u15 u26 u27 u16 u17 u18 u22 u23 u24 u28 u29 x_o_size x_o_elements hf
      · replace hf := g_in h hf
        refine g_bipush (pc' := 39) (v := (-12)) C d_Mo_judge_37 rfl rfl ?_
        replace hf := g_o2 hf; obtain ⟨h1, hf⟩ := hf; subst h1
        replace hf := g_o2 hf; obtain ⟨h1, hf⟩ := hf; subst h1
        replace hf := g_o2 hf; obtain ⟨h1, hf⟩ := hf; subst h1
        replace hf := g_o2 hf; obtain ⟨h1, hf⟩ := hf; subst h1
        replace hf := g_o2 hf; obtain ⟨h1, hf⟩ := hf; subst h1
        replace hf := g_o2 hf; obtain ⟨h1, hf⟩ := hf; subst h1
        replace hf := g_o2 hf; obtain ⟨h1, hf⟩ := hf; subst h1
        replace hf := g_o2 hf; obtain ⟨h1, hf⟩ := hf; subst h1
        replace hf := g_o2 hf; obtain ⟨h1, hf⟩ := hf; subst h1
        replace hf := g_o2 hf; obtain ⟨h1, hf⟩ := hf; subst h1
        replace hf := g_o2 hf; obtain ⟨h1, hf⟩ := hf; subst h1
        replace hf := g_o2 hf; obtain ⟨h1, hf⟩ := hf; subst h1
        replace hf := g_o2 hf; obtain ⟨h1, hf⟩ := hf; subst h1
        replace hf := g_o2 hf; obtain ⟨h1, hf⟩ := hf; subst h1
        replace hf := Option.some.inj hf; subst hf
        exact g_iret C d_Mo_judge_39 () rfl
    · replace hf := g_ip h hf
      refine g_bipush (pc' := 25) (v := (-11)) C d_Mo_judge_23 rfl rfl ?_
      replace hf := g_o2 hf; obtain ⟨h1, hf⟩ := hf; subst h1
      replace hf := g_o2 hf; obtain ⟨h1, hf⟩ := hf; subst h1
      replace hf := g_o2 hf; obtain ⟨h1, hf⟩ := hf; subst h1
      replace hf := g_o2 hf; obtain ⟨h1, hf⟩ := hf; subst h1
      replace hf := g_o2 hf; obtain ⟨h1, hf⟩ := hf; subst h1
      replace hf := g_o2 hf; obtain ⟨h1, hf⟩ := hf; subst h1
      replace hf := g_o2 hf; obtain ⟨h1, hf⟩ := hf; subst h1
      replace hf := g_o2 hf; obtain ⟨h1, hf⟩ := hf; subst h1
      replace hf := g_o2 hf; obtain ⟨h1, hf⟩ := hf; subst h1
      replace hf := g_o2 hf; obtain ⟨h1, hf⟩ := hf; subst h1
      replace hf := g_o2 hf; obtain ⟨h1, hf⟩ := hf; subst h1
      replace hf := g_o2 hf; obtain ⟨h1, hf⟩ := hf; subst h1
      replace hf := g_o2 hf; obtain ⟨h1, hf⟩ := hf; subst h1
      replace hf := g_o2 hf; obtain ⟨h1, hf⟩ := hf; subst h1
      replace hf := Option.some.inj hf; subst hf
      exact g_iret C d_Mo_judge_25 () rfl
  · replace hf := g_bf h hf
    refine g_iconst (pc' := 12) (v := (-1)) C d_Mo_judge_11 rfl rfl ?_
    replace hf := g_o2 hf; obtain ⟨h1, hf⟩ := hf; subst h1
    replace hf := g_o2 hf; obtain ⟨h1, hf⟩ := hf; subst h1
    replace hf := g_o2 hf; obtain ⟨h1, hf⟩ := hf; subst h1
    replace hf := g_o2 hf; obtain ⟨h1, hf⟩ := hf; subst h1
    replace hf := g_o2 hf; obtain ⟨h1, hf⟩ := hf; subst h1
    replace hf := g_o2 hf; obtain ⟨h1, hf⟩ := hf; subst h1
    replace hf := g_o2 hf; obtain ⟨h1, hf⟩ := hf; subst h1
    replace hf := g_o2 hf; obtain ⟨h1, hf⟩ := hf; subst h1
    replace hf := g_o2 hf; obtain ⟨h1, hf⟩ := hf; subst h1
    replace hf := g_o2 hf; obtain ⟨h1, hf⟩ := hf; subst h1
    replace hf := g_o2 hf; obtain ⟨h1, hf⟩ := hf; subst h1
    replace hf := g_o2 hf; obtain ⟨h1, hf⟩ := hf; subst h1
    replace hf := g_o2 hf; obtain ⟨h1, hf⟩ := hf; subst h1
    replace hf := g_o2 hf; obtain ⟨h1, hf⟩ := hf; subst h1
    replace hf := Option.some.inj hf; subst hf
    exact g_iret C d_Mo_judge_12 () rfl
def y_Mo_nightOf : MethodName := ⟨"OneLampModel", "nightOf", "(J)J"⟩
theorem yy_Mo_nightOf : YS y_Mo_nightOf prog_13_method_66_code 5 (some .long) 1 := ⟨mw_6_97, mw_1_12, mw_6_96, by decide +kernel, by decide +kernel, by decide +kernel⟩
theorem d_Mo_nightOf_0 : decode prog_13_method_66_code 0 = .ok (.lload_n 0, 1) := by decide +kernel
theorem d_Mo_nightOf_1 : decode prog_13_method_66_code 1 = .ok (.lstore_n 2, 1) := by decide +kernel
theorem d_Mo_nightOf_2 : decode prog_13_method_66_code 2 = .ok (.iconst 1, 1) := by decide +kernel
theorem d_Mo_nightOf_3 : decode prog_13_method_66_code 3 = .ok (.istore 4, 2) := by decide +kernel
theorem d_Mo_nightOf_5 : decode prog_13_method_66_code 5 = .ok (.iload 4, 2) := by decide +kernel
theorem d_Mo_nightOf_7 : decode prog_13_method_66_code 7 = .ok (.bipush 64, 2) := by decide +kernel
theorem d_Mo_nightOf_9 : decode prog_13_method_66_code 9 = .ok (.if_icmp .ge 19, 3) := by decide +kernel
theorem d_Mo_nightOf_12 : decode prog_13_method_66_code 12 = .ok (.lload_n 2, 1) := by decide +kernel
theorem d_Mo_nightOf_13 : decode prog_13_method_66_code 13 = .ok (.lload_n 2, 1) := by decide +kernel
theorem d_Mo_nightOf_14 : decode prog_13_method_66_code 14 = .ok (.iload 4, 2) := by decide +kernel
theorem d_Mo_nightOf_16 : decode prog_13_method_66_code 16 = .ok (.lshr, 1) := by decide +kernel
theorem d_Mo_nightOf_17 : decode prog_13_method_66_code 17 = .ok (.lxor, 1) := by decide +kernel
theorem d_Mo_nightOf_18 : decode prog_13_method_66_code 18 = .ok (.lstore_n 2, 1) := by decide +kernel
theorem d_Mo_nightOf_19 : decode prog_13_method_66_code 19 = .ok (.iload 4, 2) := by decide +kernel
theorem d_Mo_nightOf_21 : decode prog_13_method_66_code 21 = .ok (.iconst 2, 1) := by decide +kernel
theorem d_Mo_nightOf_22 : decode prog_13_method_66_code 22 = .ok (.imul, 1) := by decide +kernel
theorem d_Mo_nightOf_23 : decode prog_13_method_66_code 23 = .ok (.istore 4, 2) := by decide +kernel
theorem d_Mo_nightOf_25 : decode prog_13_method_66_code 25 = .ok (.goto (-20), 3) := by decide +kernel
theorem d_Mo_nightOf_28 : decode prog_13_method_66_code 28 = .ok (.lload_n 2, 1) := by decide +kernel
theorem d_Mo_nightOf_29 : decode prog_13_method_66_code 29 = .ok (.lreturn, 1) := by decide +kernel
def f_Mo_nightOf_L5   : Nat → Int64 → Int32 → Option (Int64)
  | 0, _, _ => none
  | n + 1, v2, v4 =>
    if (64 : Int32) ≤ v4 then
      (some (v2))
    else
      (f_Mo_nightOf_L5  n (v2 ^^^ (v2 >>> (Int32.toInt64 v4 &&& 63))) (v4 * (2 : Int32)))
set_option maxRecDepth 20000 in
theorem w_Mo_nightOf_L5 {p : Program} {l : Launch} {e : Env} {s : State} {m : MethodId} {args : Array Value} {below : List Frame} {meth : Method} {c : Code} {D : va_G} {dA : Nat → ClassId} {A : Nat → Prop} (C : GC p s m args meth c prog_13_method_66_code 5 "OneLampModel" (some .long) D dA A)   {r0 : Int64}    : ∀ (n : Nat) (v2 : Int64) (v4 : Int32), f_Mo_nightOf_L5   n v2 v4 = some r0 → GG p l e { frames := 0, cells := 0, slots := 0, locals := 0 } s m args below meth c 5 D A 0 0 (MQ below (cQ D A (some (.long r0)) (fun _ : Unit => [])) args s 0 0 A) 5 [(2, .long v2), (4, .int v4)] [] [] := by
  intro n
  induction n with
  | zero =>
    intro v2 v4 hf
    cases hf
  | succ n ih =>
    intro v2 v4 hf
    unfold f_Mo_nightOf_L5 at hf
    refine g_iload (pc' := 7) C 1 d_Mo_nightOf_5 rfl rfl ?_
    refine g_bipush (pc' := 9) (v := 64) C d_Mo_nightOf_7 rfl rfl ?_
    refine g_icmp_ge (pc' := 12) (tgt := 28) C d_Mo_nightOf_9 rfl rfl (fun h => ?_) (fun h => ?_)
    · replace hf := g_ip h hf
      refine g_lload_n (pc' := 29) C 0 d_Mo_nightOf_28 rfl rfl ?_
      replace hf := Option.some.inj hf; subst hf
      exact g_lret C d_Mo_nightOf_29 () rfl
    · replace hf := g_in h hf
      refine g_lload_n (pc' := 13) C 0 d_Mo_nightOf_12 rfl rfl ?_
      refine g_lload_n (pc' := 14) C 0 d_Mo_nightOf_13 rfl rfl ?_
      refine g_iload (pc' := 16) C 1 d_Mo_nightOf_14 rfl rfl ?_
      refine g_lshr (pc' := 17) C d_Mo_nightOf_16 rfl ?_
      refine g_lxor (pc' := 18) C d_Mo_nightOf_17 rfl ?_
      refine g_lstore_n (pc' := 19) (lv' := [(2, .long (v2 ^^^ (v2 >>> (Int32.toInt64 v4 &&& 63)))), (4, .int v4)]) C d_Mo_nightOf_18 rfl (by decide) rfl ?_
      refine g_iload (pc' := 21) C 1 d_Mo_nightOf_19 rfl rfl ?_
      refine g_iconst (pc' := 22) (v := 2) C d_Mo_nightOf_21 rfl rfl ?_
      refine g_imul (pc' := 23) C d_Mo_nightOf_22 rfl ?_
      refine g_istore (pc' := 25) (lv' := [(4, .int (v4 * (2 : Int32))), (2, .long (v2 ^^^ (v2 >>> (Int32.toInt64 v4 &&& 63))))]) C d_Mo_nightOf_23 rfl (by decide) rfl ?_
      refine g_goto (tgt := 5) C d_Mo_nightOf_25 rfl ?_
      refine g_lv (lv' := [(2, .long (v2 ^^^ (v2 >>> (Int32.toInt64 v4 &&& 63)))), (4, .int (v4 * (2 : Int32)))]) [1, 0] rfl ?_
      exact ih (v2 ^^^ (v2 >>> (Int32.toInt64 v4 &&& 63))) (v4 * (2 : Int32)) hf
def f_Mo_nightOf  (p0 : Int64) : Option (Int64) :=
  f_Mo_nightOf_L5  3000 p0 (1 : Int32)
set_option maxRecDepth 20000 in
theorem c_Mo_nightOf {l : Launch} {D : va_G} {dA : Nat → ClassId}   {p0 : Int64} {r0 : Int64}   (hf : f_Mo_nightOf  p0 = some r0) : CT l y_Mo_nightOf prog_13_method_66_code 5 (some .long) { frames := 0, cells := 0, slots := 0, locals := 0 } D dA [.long p0] [] (some (.long r0)) (fun _ : Unit => []) := by
  refine ct_intro "OneLampModel" rfl (by decide +kernel) (Nat.le_of_ble_eq_true rfl) [(0, .long p0)] rfl (fun _ C => ?_)
  unfold f_Mo_nightOf at hf
  refine g_lload_n (pc' := 1) C 0 d_Mo_nightOf_0 rfl rfl ?_
  refine g_lstore_n (pc' := 2) (lv' := [(2, .long p0), (0, .long p0)]) C d_Mo_nightOf_1 rfl (by decide) rfl ?_
  refine g_iconst (pc' := 3) (v := 1) C d_Mo_nightOf_2 rfl rfl ?_
  refine g_istore (pc' := 5) (lv' := [(4, .int 1), (2, .long p0), (0, .long p0)]) C d_Mo_nightOf_3 rfl (by decide) rfl ?_
  refine g_lv (lv' := [(2, .long p0), (4, .int (1 : Int32))]) [1, 0] rfl ?_
  exact w_Mo_nightOf_L5  C   3000 p0 (1 : Int32) hf
def y_Mo_lampOf : MethodName := ⟨"OneLampModel", "lampOf", "(J)J"⟩
theorem yy_Mo_lampOf : YS y_Mo_lampOf prog_13_method_67_code 6 (some .long) 1 := ⟨mw_6_101, mw_1_12, mw_6_100, by decide +kernel, by decide +kernel, by decide +kernel⟩
theorem d_Mo_lampOf_0 : decode prog_13_method_67_code 0 = .ok (.lconst 0, 1) := by decide +kernel
theorem d_Mo_lampOf_1 : decode prog_13_method_67_code 1 = .ok (.lstore_n 2, 1) := by decide +kernel
theorem d_Mo_lampOf_2 : decode prog_13_method_67_code 2 = .ok (.lload_n 0, 1) := by decide +kernel
theorem d_Mo_lampOf_3 : decode prog_13_method_67_code 3 = .ok (.lstore 4, 2) := by decide +kernel
theorem d_Mo_lampOf_5 : decode prog_13_method_67_code 5 = .ok (.lload 4, 2) := by decide +kernel
theorem d_Mo_lampOf_7 : decode prog_13_method_67_code 7 = .ok (.ldc2_w 312, 3) := by decide +kernel
theorem d_Mo_lampOf_10 : decode prog_13_method_67_code 10 = .ok (.lrem, 1) := by decide +kernel
theorem d_Mo_lampOf_11 : decode prog_13_method_67_code 11 = .ok (.lconst 0, 1) := by decide +kernel
theorem d_Mo_lampOf_12 : decode prog_13_method_67_code 12 = .ok (.lcmp, 1) := by decide +kernel
theorem d_Mo_lampOf_13 : decode prog_13_method_67_code 13 = .ok (.ifCond .ne 18, 3) := by decide +kernel
theorem d_Mo_lampOf_16 : decode prog_13_method_67_code 16 = .ok (.lload_n 2, 1) := by decide +kernel
theorem d_Mo_lampOf_17 : decode prog_13_method_67_code 17 = .ok (.lconst 1, 1) := by decide +kernel
theorem d_Mo_lampOf_18 : decode prog_13_method_67_code 18 = .ok (.ladd, 1) := by decide +kernel
theorem d_Mo_lampOf_19 : decode prog_13_method_67_code 19 = .ok (.lstore_n 2, 1) := by decide +kernel
theorem d_Mo_lampOf_20 : decode prog_13_method_67_code 20 = .ok (.lload 4, 2) := by decide +kernel
theorem d_Mo_lampOf_22 : decode prog_13_method_67_code 22 = .ok (.ldc2_w 312, 3) := by decide +kernel
theorem d_Mo_lampOf_25 : decode prog_13_method_67_code 25 = .ok (.ldiv, 1) := by decide +kernel
theorem d_Mo_lampOf_26 : decode prog_13_method_67_code 26 = .ok (.lstore 4, 2) := by decide +kernel
theorem d_Mo_lampOf_28 : decode prog_13_method_67_code 28 = .ok (.goto (-23), 3) := by decide +kernel
theorem d_Mo_lampOf_31 : decode prog_13_method_67_code 31 = .ok (.lload_n 2, 1) := by decide +kernel
theorem d_Mo_lampOf_32 : decode prog_13_method_67_code 32 = .ok (.lreturn, 1) := by decide +kernel
def f_Mo_lampOf_L5   : Nat → Int64 → Int64 → Option (Int64)
  | 0, _, _ => none
  | n + 1, v2, v4 =>
    if (lg_cmp (v4 - v4 / (2 : Int64) * (2 : Int64)) (0 : Int64)) = 0 then
      (f_Mo_lampOf_L5  n (v2 + (1 : Int64)) (v4 / (2 : Int64)))
    else
      (some (v2))
set_option maxRecDepth 20000 in
theorem w_Mo_lampOf_L5 {p : Program} {l : Launch} {e : Env} {s : State} {m : MethodId} {args : Array Value} {below : List Frame} {meth : Method} {c : Code} {D : va_G} {dA : Nat → ClassId} {A : Nat → Prop} (C : GC p s m args meth c prog_13_method_67_code 6 "OneLampModel" (some .long) D dA A)   {r0 : Int64}    : ∀ (n : Nat) (v2 : Int64) (v4 : Int64), f_Mo_lampOf_L5   n v2 v4 = some r0 → GG p l e { frames := 0, cells := 0, slots := 0, locals := 0 } s m args below meth c 6 D A 0 0 (MQ below (cQ D A (some (.long r0)) (fun _ : Unit => [])) args s 0 0 A) 5 [(2, .long v2), (4, .long v4)] [] [] := by
  intro n
  induction n with
  | zero =>
    intro v2 v4 hf
    cases hf
  | succ n ih =>
    intro v2 v4 hf
    unfold f_Mo_lampOf_L5 at hf
    refine g_lload (pc' := 7) C 1 d_Mo_lampOf_5 rfl rfl ?_
    refine g_ldc2 (pc' := 10) (v := 2) C d_Mo_lampOf_7 rfl mw_6_102 ?_
    refine g_lrem (pc' := 11) C d_Mo_lampOf_10 rfl (by decide) ?_
    refine g_lconst (pc' := 12) (v := 0) C d_Mo_lampOf_11 rfl rfl ?_
    refine g_lcmp (pc' := 13) C d_Mo_lampOf_12 rfl ?_
    refine g_if_ne (pc' := 16) (tgt := 31) C d_Mo_lampOf_13 rfl rfl (fun h => ?_) (fun h => ?_)
    · replace hf := g_in h hf
      refine g_lload_n (pc' := 32) C 0 d_Mo_lampOf_31 rfl rfl ?_
      replace hf := Option.some.inj hf; subst hf
      exact g_lret C d_Mo_lampOf_32 () rfl
    · replace hf := g_ip h hf
      refine g_lload_n (pc' := 17) C 0 d_Mo_lampOf_16 rfl rfl ?_
      refine g_lconst (pc' := 18) (v := 1) C d_Mo_lampOf_17 rfl rfl ?_
      refine g_ladd (pc' := 19) C d_Mo_lampOf_18 rfl ?_
      refine g_lstore_n (pc' := 20) (lv' := [(2, .long (v2 + (1 : Int64))), (4, .long v4)]) C d_Mo_lampOf_19 rfl (by decide) rfl ?_
      refine g_lload (pc' := 22) C 1 d_Mo_lampOf_20 rfl rfl ?_
      refine g_ldc2 (pc' := 25) (v := 2) C d_Mo_lampOf_22 rfl mw_6_102 ?_
      refine g_ldiv (pc' := 26) C d_Mo_lampOf_25 rfl (by decide) ?_
      refine g_lstore (pc' := 28) (lv' := [(4, .long (v4 / (2 : Int64))), (2, .long (v2 + (1 : Int64)))]) C d_Mo_lampOf_26 rfl (by decide) rfl ?_
      refine g_goto (tgt := 5) C d_Mo_lampOf_28 rfl ?_
      refine g_lv (lv' := [(2, .long (v2 + (1 : Int64))), (4, .long (v4 / (2 : Int64)))]) [1, 0] rfl ?_
      exact ih (v2 + (1 : Int64)) (v4 / (2 : Int64)) hf
def f_Mo_lampOf  (p0 : Int64) : Option (Int64) :=
  f_Mo_lampOf_L5  3000 (0 : Int64) p0
set_option maxRecDepth 20000 in
theorem c_Mo_lampOf {l : Launch} {D : va_G} {dA : Nat → ClassId}   {p0 : Int64} {r0 : Int64}   (hf : f_Mo_lampOf  p0 = some r0) : CT l y_Mo_lampOf prog_13_method_67_code 6 (some .long) { frames := 0, cells := 0, slots := 0, locals := 0 } D dA [.long p0] [] (some (.long r0)) (fun _ : Unit => []) := by
  refine ct_intro "OneLampModel" rfl (by decide +kernel) (Nat.le_of_ble_eq_true rfl) [(0, .long p0)] rfl (fun _ C => ?_)
  unfold f_Mo_lampOf at hf
  refine g_lconst (pc' := 1) (v := 0) C d_Mo_lampOf_0 rfl rfl ?_
  refine g_lstore_n (pc' := 2) (lv' := [(2, .long (0 : Int64)), (0, .long p0)]) C d_Mo_lampOf_1 rfl (by decide) rfl ?_
  refine g_lload_n (pc' := 3) C 1 d_Mo_lampOf_2 rfl rfl ?_
  refine g_lstore (pc' := 5) (lv' := [(4, .long p0), (2, .long (0 : Int64)), (0, .long p0)]) C d_Mo_lampOf_3 rfl (by decide) rfl ?_
  refine g_lv (lv' := [(2, .long (0 : Int64)), (4, .long p0)]) [1, 0] rfl ?_
  exact w_Mo_lampOf_L5  C   3000 (0 : Int64) p0 hf
def y_Mo_isFar : MethodName := ⟨"OneLampModel", "isFar", "(J)Z"⟩
theorem yy_Mo_isFar : YS y_Mo_isFar prog_13_method_68_code 2 (some .boolean) 1 := ⟨mw_6_93, mw_1_12, mw_6_92, by decide +kernel, by decide +kernel, by decide +kernel⟩
theorem d_Mo_isFar_0 : decode prog_13_method_68_code 0 = .ok (.lload_n 0, 1) := by decide +kernel
theorem d_Mo_isFar_1 : decode prog_13_method_68_code 1 = .ok (.lconst 0, 1) := by decide +kernel
theorem d_Mo_isFar_2 : decode prog_13_method_68_code 2 = .ok (.lcmp, 1) := by decide +kernel
theorem d_Mo_isFar_3 : decode prog_13_method_68_code 3 = .ok (.ifCond .lt 16, 3) := by decide +kernel
theorem d_Mo_isFar_6 : decode prog_13_method_68_code 6 = .ok (.lload_n 0, 1) := by decide +kernel
theorem d_Mo_isFar_7 : decode prog_13_method_68_code 7 = .ok (.bipush 62, 2) := by decide +kernel
theorem d_Mo_isFar_9 : decode prog_13_method_68_code 9 = .ok (.lshr, 1) := by decide +kernel
theorem d_Mo_isFar_10 : decode prog_13_method_68_code 10 = .ok (.lconst 0, 1) := by decide +kernel
theorem d_Mo_isFar_11 : decode prog_13_method_68_code 11 = .ok (.lcmp, 1) := by decide +kernel
theorem d_Mo_isFar_12 : decode prog_13_method_68_code 12 = .ok (.ifCond .ne 7, 3) := by decide +kernel
theorem d_Mo_isFar_15 : decode prog_13_method_68_code 15 = .ok (.iconst 1, 1) := by decide +kernel
theorem d_Mo_isFar_16 : decode prog_13_method_68_code 16 = .ok (.goto 4, 3) := by decide +kernel
theorem d_Mo_isFar_19 : decode prog_13_method_68_code 19 = .ok (.iconst 0, 1) := by decide +kernel
theorem d_Mo_isFar_20 : decode prog_13_method_68_code 20 = .ok (.ireturn, 1) := by decide +kernel
def f_Mo_isFar  (p0 : Int64) : Option (Bool) :=
  if (lg_cmp p0 (0 : Int64)) < 0 then
    (some (false))
  else
    (if (lg_cmp (p0 >>> (Int32.toInt64 (62 : Int32) &&& 63)) (0 : Int64)) = 0 then
      (some (true))
    else
      (some (false)))
set_option maxRecDepth 20000 in
theorem c_Mo_isFar {l : Launch} {D : va_G} {dA : Nat → ClassId}   {p0 : Int64} {r0 : Bool}   (hf : f_Mo_isFar  p0 = some r0) : CT l y_Mo_isFar prog_13_method_68_code 2 (some .boolean) { frames := 0, cells := 0, slots := 0, locals := 0 } D dA [.long p0] [] (some (.int (b2i r0))) (fun _ : Unit => []) := by
  refine ct_intro "OneLampModel" rfl (by decide +kernel) (Nat.le_of_ble_eq_true rfl) [(0, .long p0)] rfl (fun _ C => ?_)
  unfold f_Mo_isFar at hf
  refine g_lload_n (pc' := 1) C 0 d_Mo_isFar_0 rfl rfl ?_
  refine g_lconst (pc' := 2) (v := 0) C d_Mo_isFar_1 rfl rfl ?_
  refine g_lcmp (pc' := 3) C d_Mo_isFar_2 rfl ?_
  refine g_if_lt (pc' := 6) (tgt := 19) C d_Mo_isFar_3 rfl rfl (fun h => ?_) (fun h => ?_)
  · replace hf := g_ip h hf
    refine g_iconst (pc' := 20) (v := 0) C d_Mo_isFar_19 rfl rfl ?_
    replace hf := Option.some.inj hf; subst hf
    exact g_zret C d_Mo_isFar_20 () rfl
  · replace hf := g_in h hf
    refine g_lload_n (pc' := 7) C 0 d_Mo_isFar_6 rfl rfl ?_
    refine g_bipush (pc' := 9) (v := 62) C d_Mo_isFar_7 rfl rfl ?_
    refine g_lshr (pc' := 10) C d_Mo_isFar_9 rfl ?_
    refine g_lconst (pc' := 11) (v := 0) C d_Mo_isFar_10 rfl rfl ?_
    refine g_lcmp (pc' := 12) C d_Mo_isFar_11 rfl ?_
    refine g_if_ne (pc' := 15) (tgt := 19) C d_Mo_isFar_12 rfl rfl (fun h => ?_) (fun h => ?_)
    · replace hf := g_in h hf
      refine g_iconst (pc' := 20) (v := 0) C d_Mo_isFar_19 rfl rfl ?_
      replace hf := Option.some.inj hf; subst hf
      exact g_zret C d_Mo_isFar_20 () rfl
    · replace hf := g_ip h hf
      refine g_iconst (pc' := 16) (v := 1) C d_Mo_isFar_15 rfl rfl ?_
      refine g_goto (tgt := 20) C d_Mo_isFar_16 rfl ?_
      replace hf := Option.some.inj hf; subst hf
      exact g_zret C d_Mo_isFar_20 () rfl
def y_Mo_mirror : MethodName := ⟨"OneLampModel", "mirror", "(JI)J"⟩
theorem yy_Mo_mirror : YV y_Mo_mirror prog_13_method_69_code 4 (some .long) 2 := ⟨mw_6_90, mw_1_12, mw_6_88, mw_6_89, by decide +kernel, by decide +kernel, by decide +kernel⟩
theorem d_Mo_mirror_0 : decode prog_13_method_69_code 0 = .ok (.lload_n 1, 1) := by decide +kernel
theorem d_Mo_mirror_1 : decode prog_13_method_69_code 1 = .ok (.invokestatic 314, 3) := by decide +kernel
theorem d_Mo_mirror_4 : decode prog_13_method_69_code 4 = .ok (.ifCond .eq 12, 3) := by decide +kernel
theorem d_Mo_mirror_7 : decode prog_13_method_69_code 7 = .ok (.iload_n 3, 1) := by decide +kernel
theorem d_Mo_mirror_8 : decode prog_13_method_69_code 8 = .ok (.iconst 0, 1) := by decide +kernel
theorem d_Mo_mirror_9 : decode prog_13_method_69_code 9 = .ok (.iconst 2, 1) := by decide +kernel
theorem d_Mo_mirror_10 : decode prog_13_method_69_code 10 = .ok (.invokestatic 121, 3) := by decide +kernel
theorem d_Mo_mirror_13 : decode prog_13_method_69_code 13 = .ok (.ifCond .ne 7, 3) := by decide +kernel
theorem d_Mo_mirror_16 : decode prog_13_method_69_code 16 = .ok (.ldc2_w 318, 3) := by decide +kernel
theorem d_Mo_mirror_19 : decode prog_13_method_69_code 19 = .ok (.lreturn, 1) := by decide +kernel
theorem d_Mo_mirror_20 : decode prog_13_method_69_code 20 = .ok (.iload_n 3, 1) := by decide +kernel
theorem d_Mo_mirror_21 : decode prog_13_method_69_code 21 = .ok (.ifCond .ne 11, 3) := by decide +kernel
theorem d_Mo_mirror_24 : decode prog_13_method_69_code 24 = .ok (.lload_n 1, 1) := by decide +kernel
theorem d_Mo_mirror_25 : decode prog_13_method_69_code 25 = .ok (.lload_n 1, 1) := by decide +kernel
theorem d_Mo_mirror_26 : decode prog_13_method_69_code 26 = .ok (.iconst 1, 1) := by decide +kernel
theorem d_Mo_mirror_27 : decode prog_13_method_69_code 27 = .ok (.lshr, 1) := by decide +kernel
theorem d_Mo_mirror_28 : decode prog_13_method_69_code 28 = .ok (.lxor, 1) := by decide +kernel
theorem d_Mo_mirror_29 : decode prog_13_method_69_code 29 = .ok (.goto 31, 3) := by decide +kernel
theorem d_Mo_mirror_32 : decode prog_13_method_69_code 32 = .ok (.iload_n 3, 1) := by decide +kernel
theorem d_Mo_mirror_33 : decode prog_13_method_69_code 33 = .ok (.iconst 1, 1) := by decide +kernel
theorem d_Mo_mirror_34 : decode prog_13_method_69_code 34 = .ok (.if_icmp .ne 10, 3) := by decide +kernel
theorem d_Mo_mirror_37 : decode prog_13_method_69_code 37 = .ok (.lload_n 1, 1) := by decide +kernel
theorem d_Mo_mirror_38 : decode prog_13_method_69_code 38 = .ok (.invokestatic 320, 3) := by decide +kernel
theorem d_Mo_mirror_41 : decode prog_13_method_69_code 41 = .ok (.goto 19, 3) := by decide +kernel
theorem d_Mo_mirror_44 : decode prog_13_method_69_code 44 = .ok (.lload_n 1, 1) := by decide +kernel
theorem d_Mo_mirror_45 : decode prog_13_method_69_code 45 = .ok (.lconst 0, 1) := by decide +kernel
theorem d_Mo_mirror_46 : decode prog_13_method_69_code 46 = .ok (.lcmp, 1) := by decide +kernel
theorem d_Mo_mirror_47 : decode prog_13_method_69_code 47 = .ok (.ifCond .ne 9, 3) := by decide +kernel
theorem d_Mo_mirror_50 : decode prog_13_method_69_code 50 = .ok (.ldc2_w 324, 3) := by decide +kernel
theorem d_Mo_mirror_53 : decode prog_13_method_69_code 53 = .ok (.goto 7, 3) := by decide +kernel
theorem d_Mo_mirror_56 : decode prog_13_method_69_code 56 = .ok (.lload_n 1, 1) := by decide +kernel
theorem d_Mo_mirror_57 : decode prog_13_method_69_code 57 = .ok (.invokestatic 326, 3) := by decide +kernel
theorem d_Mo_mirror_60 : decode prog_13_method_69_code 60 = .ok (.lreturn, 1) := by decide +kernel
def f_Mo_mirror  (p1 : Int64) (p2 : Int32) : Option (Int64) :=
  (f_Mo_isFar  p1).bind fun r1 =>
  if r1 = true then
    ((f_Mo_in  p2 (0 : Int32) (2 : Int32)).bind fun r3 =>
    if r3 = true then
      (if p2 = 0 then
        (some ((p1 ^^^ (p1 >>> (Int32.toInt64 (1 : Int32) &&& 63)))))
      else
        (if p2 = (1 : Int32) then
          ((f_Mo_nightOf  p1).bind fun r7 =>
          some (r7))
        else
          (if (lg_cmp p1 (0 : Int64)) = 0 then
            (some ((-2 : Int64)))
          else
            ((f_Mo_lampOf  p1).bind fun r5 =>
            some (r5)))))
    else
      (some ((-1 : Int64))))
  else
    (some ((-1 : Int64)))
set_option maxRecDepth 20000 in
theorem c_Mo_mirror {l : Launch} {D : va_G} {dA : Nat → ClassId} {a_o : Nat}  {p1 : Int64} {p2 : Int32} {r0 : Int64}   (hf : f_Mo_mirror  p1 p2 = some r0) : CT l y_Mo_mirror prog_13_method_69_code 4 (some .long) { frames := 1, cells := 0, slots := 0, locals := 25 } D dA [.ref a_o, .long p1, .int p2] [] (some (.long r0)) (fun _ : Unit => []) := by
  refine ct_intro "OneLampModel" rfl (by decide +kernel) (Nat.le_of_ble_eq_true rfl) [(0, .ref a_o), (1, .long p1), (3, .int p2)] rfl (fun _ C => ?_)
  unfold f_Mo_mirror at hf
  refine g_lload_n (pc' := 1) C 1 d_Mo_mirror_0 rfl rfl ?_
  replace hf := g_bi hf; obtain ⟨r1, hc2, hf⟩ := hf
  refine g_callS (pc' := 4) (st1 := [.int (b2i r1)]) (ws1 := []) C (c_Mo_isFar (l := l) (D := D) (dA := dA)    hc2) yy_Mo_isFar mw_6_91 d_Mo_mirror_1 rfl [] rfl rfl (Nat.le_of_ble_eq_true rfl) ⟨Nat.le_of_ble_eq_true rfl, Nat.le_of_ble_eq_true rfl⟩ rfl rfl (Nat.zero_le _) (Nat.zero_le _) [] rfl (by decide +kernel) rfl (g_lay_sel _ _ _ _ [] (by decide +kernel) rfl (by decide +kernel) rfl rfl) rfl ?_
  refine g_if_eqb (pc' := 7) (tgt := 16) C d_Mo_mirror_4 rfl rfl (fun h => ?_) (fun h => ?_)
  · replace hf := g_bf h hf
    refine g_ldc2 (pc' := 19) (v := (-1)) C d_Mo_mirror_16 rfl mw_6_94 ?_
    replace hf := Option.some.inj hf; subst hf
    exact g_lret C d_Mo_mirror_19 () rfl
  · replace hf := g_bt h hf
    refine g_iload_n (pc' := 8) C 2 d_Mo_mirror_7 rfl rfl ?_
    refine g_iconst (pc' := 9) (v := 0) C d_Mo_mirror_8 rfl rfl ?_
    refine g_iconst (pc' := 10) (v := 2) C d_Mo_mirror_9 rfl rfl ?_
    replace hf := g_bi hf; obtain ⟨r3, hc4, hf⟩ := hf
    refine g_callS (pc' := 13) (st1 := [.int (b2i r3)]) (ws1 := []) C (c_Mo_in (l := l) (D := D) (dA := dA)    hc4) yy_Mo_in mw_5_80 d_Mo_mirror_10 rfl [] rfl rfl (Nat.le_of_ble_eq_true rfl) ⟨Nat.le_of_ble_eq_true rfl, Nat.le_of_ble_eq_true rfl⟩ rfl rfl (Nat.zero_le _) (Nat.zero_le _) [] rfl (by decide +kernel) rfl (g_lay_sel _ _ _ _ [] (by decide +kernel) rfl (by decide +kernel) rfl rfl) rfl ?_
    refine g_if_neb (pc' := 16) (tgt := 20) C d_Mo_mirror_13 rfl rfl (fun h => ?_) (fun h => ?_)
    · replace hf := g_bt h hf
      refine g_iload_n (pc' := 21) C 2 d_Mo_mirror_20 rfl rfl ?_
      refine g_if_ne (pc' := 24) (tgt := 32) C d_Mo_mirror_21 rfl rfl (fun h => ?_) (fun h => ?_)
      · replace hf := g_in h hf
        refine g_iload_n (pc' := 33) C 2 d_Mo_mirror_32 rfl rfl ?_
        refine g_iconst (pc' := 34) (v := 1) C d_Mo_mirror_33 rfl rfl ?_
        refine g_icmp_ne (pc' := 37) (tgt := 44) C d_Mo_mirror_34 rfl rfl (fun h => ?_) (fun h => ?_)
        · replace hf := g_in h hf
          refine g_lload_n (pc' := 45) C 1 d_Mo_mirror_44 rfl rfl ?_
          refine g_lconst (pc' := 46) (v := 0) C d_Mo_mirror_45 rfl rfl ?_
          refine g_lcmp (pc' := 47) C d_Mo_mirror_46 rfl ?_
          refine g_if_ne (pc' := 50) (tgt := 56) C d_Mo_mirror_47 rfl rfl (fun h => ?_) (fun h => ?_)
          · replace hf := g_in h hf
            refine g_lload_n (pc' := 57) C 1 d_Mo_mirror_56 rfl rfl ?_
            replace hf := g_bi hf; obtain ⟨r5, hc6, hf⟩ := hf
            refine g_callS (pc' := 60) (st1 := [.long r5]) (ws1 := []) C (c_Mo_lampOf (l := l) (D := D) (dA := dA)    hc6) yy_Mo_lampOf mw_6_99 d_Mo_mirror_57 rfl [] rfl rfl (Nat.le_of_ble_eq_true rfl) ⟨Nat.le_of_ble_eq_true rfl, Nat.le_of_ble_eq_true rfl⟩ rfl rfl (Nat.zero_le _) (Nat.zero_le _) [] rfl (by decide +kernel) rfl (g_lay_sel _ _ _ _ [] (by decide +kernel) rfl (by decide +kernel) rfl rfl) rfl ?_
            replace hf := Option.some.inj hf; subst hf
            exact g_lret C d_Mo_mirror_60 () rfl
          · replace hf := g_ip h hf
            refine g_ldc2 (pc' := 53) (v := (-2)) C d_Mo_mirror_50 rfl mw_6_98 ?_
            refine g_goto (tgt := 60) C d_Mo_mirror_53 rfl ?_
            replace hf := Option.some.inj hf; subst hf
            exact g_lret C d_Mo_mirror_60 () rfl
        · replace hf := g_ip h hf
          refine g_lload_n (pc' := 38) C 1 d_Mo_mirror_37 rfl rfl ?_
          replace hf := g_bi hf; obtain ⟨r7, hc8, hf⟩ := hf
          refine g_callS (pc' := 41) (st1 := [.long r7]) (ws1 := []) C (c_Mo_nightOf (l := l) (D := D) (dA := dA)    hc8) yy_Mo_nightOf mw_6_95 d_Mo_mirror_38 rfl [] rfl rfl (Nat.le_of_ble_eq_true rfl) ⟨Nat.le_of_ble_eq_true rfl, Nat.le_of_ble_eq_true rfl⟩ rfl rfl (Nat.zero_le _) (Nat.zero_le _) [] rfl (by decide +kernel) rfl (g_lay_sel _ _ _ _ [] (by decide +kernel) rfl (by decide +kernel) rfl rfl) rfl ?_
          refine g_goto (tgt := 60) C d_Mo_mirror_41 rfl ?_
          replace hf := Option.some.inj hf; subst hf
          exact g_lret C d_Mo_mirror_60 () rfl
      · replace hf := g_ip h hf
        refine g_lload_n (pc' := 25) C 1 d_Mo_mirror_24 rfl rfl ?_
        refine g_lload_n (pc' := 26) C 1 d_Mo_mirror_25 rfl rfl ?_
        refine g_iconst (pc' := 27) (v := 1) C d_Mo_mirror_26 rfl rfl ?_
        refine g_lshr (pc' := 28) C d_Mo_mirror_27 rfl ?_
        refine g_lxor (pc' := 29) C d_Mo_mirror_28 rfl ?_
        refine g_goto (tgt := 60) C d_Mo_mirror_29 rfl ?_
        replace hf := Option.some.inj hf; subst hf
        exact g_lret C d_Mo_mirror_60 () rfl
    · replace hf := g_bf h hf
      refine g_ldc2 (pc' := 19) (v := (-1)) C d_Mo_mirror_16 rfl mw_6_94 ?_
      replace hf := Option.some.inj hf; subst hf
      exact g_lret C d_Mo_mirror_19 () rfl
def y_Mo_several : MethodName := ⟨"OneLampModel", "several", "(IJ)I"⟩
theorem yy_Mo_several : YV y_Mo_several prog_13_method_70_code 8 (some .int) 2 := ⟨mw_6_106, mw_1_12, mw_6_104, mw_6_105, by decide +kernel, by decide +kernel, by decide +kernel⟩
theorem d_Mo_several_0 : decode prog_13_method_70_code 0 = .ok (.iload_n 1, 1) := by decide +kernel
theorem d_Mo_several_1 : decode prog_13_method_70_code 1 = .ok (.ifCond .lt 32, 3) := by decide +kernel
theorem d_Mo_several_4 : decode prog_13_method_70_code 4 = .ok (.iload_n 1, 1) := by decide +kernel
theorem d_Mo_several_5 : decode prog_13_method_70_code 5 = .ok (.bipush 100, 2) := by decide +kernel
theorem d_Mo_several_7 : decode prog_13_method_70_code 7 = .ok (.idiv, 1) := by decide +kernel
theorem d_Mo_several_8 : decode prog_13_method_70_code 8 = .ok (.iconst 2, 1) := by decide +kernel
theorem d_Mo_several_9 : decode prog_13_method_70_code 9 = .ok (.bipush 9, 2) := by decide +kernel
theorem d_Mo_several_11 : decode prog_13_method_70_code 11 = .ok (.invokestatic 121, 3) := by decide +kernel
theorem d_Mo_several_14 : decode prog_13_method_70_code 14 = .ok (.ifCond .eq 19, 3) := by decide +kernel
theorem d_Mo_several_17 : decode prog_13_method_70_code 17 = .ok (.iload_n 1, 1) := by decide +kernel
theorem d_Mo_several_18 : decode prog_13_method_70_code 18 = .ok (.bipush 100, 2) := by decide +kernel
theorem d_Mo_several_20 : decode prog_13_method_70_code 20 = .ok (.irem, 1) := by decide +kernel
theorem d_Mo_several_21 : decode prog_13_method_70_code 21 = .ok (.bipush 30, 2) := by decide +kernel
theorem d_Mo_several_23 : decode prog_13_method_70_code 23 = .ok (.if_icmp .gt 10, 3) := by decide +kernel
theorem d_Mo_several_26 : decode prog_13_method_70_code 26 = .ok (.lload_n 2, 1) := by decide +kernel
theorem d_Mo_several_27 : decode prog_13_method_70_code 27 = .ok (.invokestatic 314, 3) := by decide +kernel
theorem d_Mo_several_30 : decode prog_13_method_70_code 30 = .ok (.ifCond .ne 5, 3) := by decide +kernel
theorem d_Mo_several_33 : decode prog_13_method_70_code 33 = .ok (.iconst (-1), 1) := by decide +kernel
theorem d_Mo_several_34 : decode prog_13_method_70_code 34 = .ok (.ireturn, 1) := by decide +kernel
theorem d_Mo_several_35 : decode prog_13_method_70_code 35 = .ok (.iload_n 1, 1) := by decide +kernel
theorem d_Mo_several_36 : decode prog_13_method_70_code 36 = .ok (.bipush 100, 2) := by decide +kernel
theorem d_Mo_several_38 : decode prog_13_method_70_code 38 = .ok (.idiv, 1) := by decide +kernel
theorem d_Mo_several_39 : decode prog_13_method_70_code 39 = .ok (.istore 4, 2) := by decide +kernel
theorem d_Mo_several_41 : decode prog_13_method_70_code 41 = .ok (.lload_n 2, 1) := by decide +kernel
theorem d_Mo_several_42 : decode prog_13_method_70_code 42 = .ok (.lstore 5, 2) := by decide +kernel
theorem d_Mo_several_44 : decode prog_13_method_70_code 44 = .ok (.iload_n 1, 1) := by decide +kernel
theorem d_Mo_several_45 : decode prog_13_method_70_code 45 = .ok (.bipush 100, 2) := by decide +kernel
theorem d_Mo_several_47 : decode prog_13_method_70_code 47 = .ok (.irem, 1) := by decide +kernel
theorem d_Mo_several_48 : decode prog_13_method_70_code 48 = .ok (.istore 7, 2) := by decide +kernel
theorem d_Mo_several_50 : decode prog_13_method_70_code 50 = .ok (.iload 7, 2) := by decide +kernel
theorem d_Mo_several_52 : decode prog_13_method_70_code 52 = .ok (.ifCond .le 17, 3) := by decide +kernel
theorem d_Mo_several_55 : decode prog_13_method_70_code 55 = .ok (.lload 5, 2) := by decide +kernel
theorem d_Mo_several_57 : decode prog_13_method_70_code 57 = .ok (.iload 4, 2) := by decide +kernel
theorem d_Mo_several_59 : decode prog_13_method_70_code 59 = .ok (.i2l, 1) := by decide +kernel
theorem d_Mo_several_60 : decode prog_13_method_70_code 60 = .ok (.ldiv, 1) := by decide +kernel
theorem d_Mo_several_61 : decode prog_13_method_70_code 61 = .ok (.lstore 5, 2) := by decide +kernel
theorem d_Mo_several_63 : decode prog_13_method_70_code 63 = .ok (.iinc 7 (-1), 3) := by decide +kernel
theorem d_Mo_several_66 : decode prog_13_method_70_code 66 = .ok (.goto (-16), 3) := by decide +kernel
theorem d_Mo_several_69 : decode prog_13_method_70_code 69 = .ok (.lload 5, 2) := by decide +kernel
theorem d_Mo_several_71 : decode prog_13_method_70_code 71 = .ok (.iconst 2, 1) := by decide +kernel
theorem d_Mo_several_72 : decode prog_13_method_70_code 72 = .ok (.iload 4, 2) := by decide +kernel
theorem d_Mo_several_74 : decode prog_13_method_70_code 74 = .ok (.imul, 1) := by decide +kernel
theorem d_Mo_several_75 : decode prog_13_method_70_code 75 = .ok (.i2l, 1) := by decide +kernel
theorem d_Mo_several_76 : decode prog_13_method_70_code 76 = .ok (.lrem, 1) := by decide +kernel
theorem d_Mo_several_77 : decode prog_13_method_70_code 77 = .ok (.l2i, 1) := by decide +kernel
theorem d_Mo_several_78 : decode prog_13_method_70_code 78 = .ok (.istore 7, 2) := by decide +kernel
theorem d_Mo_several_80 : decode prog_13_method_70_code 80 = .ok (.iload 7, 2) := by decide +kernel
theorem d_Mo_several_82 : decode prog_13_method_70_code 82 = .ok (.iload 4, 2) := by decide +kernel
theorem d_Mo_several_84 : decode prog_13_method_70_code 84 = .ok (.if_icmp .ge 8, 3) := by decide +kernel
theorem d_Mo_several_87 : decode prog_13_method_70_code 87 = .ok (.iload 7, 2) := by decide +kernel
theorem d_Mo_several_89 : decode prog_13_method_70_code 89 = .ok (.goto 12, 3) := by decide +kernel
theorem d_Mo_several_92 : decode prog_13_method_70_code 92 = .ok (.iconst 2, 1) := by decide +kernel
theorem d_Mo_several_93 : decode prog_13_method_70_code 93 = .ok (.iload 4, 2) := by decide +kernel
theorem d_Mo_several_95 : decode prog_13_method_70_code 95 = .ok (.imul, 1) := by decide +kernel
theorem d_Mo_several_96 : decode prog_13_method_70_code 96 = .ok (.iconst 1, 1) := by decide +kernel
theorem d_Mo_several_97 : decode prog_13_method_70_code 97 = .ok (.isub, 1) := by decide +kernel
theorem d_Mo_several_98 : decode prog_13_method_70_code 98 = .ok (.iload 7, 2) := by decide +kernel
theorem d_Mo_several_100 : decode prog_13_method_70_code 100 = .ok (.isub, 1) := by decide +kernel
theorem d_Mo_several_101 : decode prog_13_method_70_code 101 = .ok (.ireturn, 1) := by decide +kernel
def f_Mo_several_L50   : Nat → Int32 → Int64 → Int32 → Option (Int32)
  | 0, _, _, _ => none
  | n + 1, v4, v5, v7 =>
    if v7 ≤ 0 then
      (if (Int32.toInt64 ((2 : Int32) * v4)) = 0 then none else
      if v4 ≤ (Int64.toInt32 (v5 - v5 / (Int32.toInt64 ((2 : Int32) * v4)) * (Int32.toInt64 ((2 : Int32) * v4)))) then
        (some (((((2 : Int32) * v4) - (1 : Int32)) - (Int64.toInt32 (v5 - v5 / (Int32.toInt64 ((2 : Int32) * v4)) * (Int32.toInt64 ((2 : Int32) * v4)))))))
      else
        (some ((Int64.toInt32 (v5 - v5 / (Int32.toInt64 ((2 : Int32) * v4)) * (Int32.toInt64 ((2 : Int32) * v4)))))))
    else
      (if (Int32.toInt64 v4) = 0 then none else
      f_Mo_several_L50  n v4 (v5 / (Int32.toInt64 v4)) (v7 + (-1)))
set_option maxRecDepth 20000 in
theorem w_Mo_several_L50 {p : Program} {l : Launch} {e : Env} {s : State} {m : MethodId} {args : Array Value} {below : List Frame} {meth : Method} {c : Code} {D : va_G} {dA : Nat → ClassId} {A : Nat → Prop} (C : GC p s m args meth c prog_13_method_70_code 8 "OneLampModel" (some .int) D dA A) {a_o : Nat}  {r0 : Int32}    : ∀ (n : Nat) (v4 : Int32) (v5 : Int64) (v7 : Int32), f_Mo_several_L50   n v4 v5 v7 = some r0 → GG p l e { frames := 1, cells := 0, slots := 0, locals := 22 } s m args below meth c 8 D A 0 0 (MQ below (cQ D A (some (.int r0)) (fun _ : Unit => [])) args s 0 0 A) 50 [(4, .int v4), (5, .long v5), (7, .int v7)] [] [] := by
  intro n
  induction n with
  | zero =>
    intro v4 v5 v7 hf
    cases hf
  | succ n ih =>
    intro v4 v5 v7 hf
    unfold f_Mo_several_L50 at hf
    refine g_iload (pc' := 52) C 2 d_Mo_several_50 rfl rfl ?_
    refine g_if_le (pc' := 55) (tgt := 69) C d_Mo_several_52 rfl rfl (fun h => ?_) (fun h => ?_)
    · replace hf := g_ip h hf
      refine g_lload (pc' := 71) C 1 d_Mo_several_69 rfl rfl ?_
      refine g_iconst (pc' := 72) (v := 2) C d_Mo_several_71 rfl rfl ?_
      refine g_iload (pc' := 74) C 0 d_Mo_several_72 rfl rfl ?_
      refine g_imul (pc' := 75) C d_Mo_several_74 rfl ?_
      refine g_i2l (pc' := 76) C d_Mo_several_75 rfl ?_
      have hb := g_ck hf
      replace hf := g_in hb hf
      refine g_lrem (pc' := 77) C d_Mo_several_76 rfl hb ?_
      refine g_l2i (pc' := 78) C d_Mo_several_77 rfl ?_
      refine g_istore (pc' := 80) (lv' := [(7, .int (Int64.toInt32 (v5 - v5 / (Int32.toInt64 ((2 : Int32) * v4)) * (Int32.toInt64 ((2 : Int32) * v4))))), (4, .int v4), (5, .long v5)]) C d_Mo_several_78 rfl (by decide) rfl ?_
      refine g_iload (pc' := 82) C 0 d_Mo_several_80 rfl rfl ?_
      refine g_iload (pc' := 84) C 1 d_Mo_several_82 rfl rfl ?_
      refine g_icmp_ge (pc' := 87) (tgt := 92) C d_Mo_several_84 rfl rfl (fun h => ?_) (fun h => ?_)
      · replace hf := g_ip h hf
        refine g_iconst (pc' := 93) (v := 2) C d_Mo_several_92 rfl rfl ?_
        refine g_iload (pc' := 95) C 1 d_Mo_several_93 rfl rfl ?_
        refine g_imul (pc' := 96) C d_Mo_several_95 rfl ?_
        refine g_iconst (pc' := 97) (v := 1) C d_Mo_several_96 rfl rfl ?_
        refine g_isub (pc' := 98) C d_Mo_several_97 rfl ?_
        refine g_iload (pc' := 100) C 0 d_Mo_several_98 rfl rfl ?_
        refine g_isub (pc' := 101) C d_Mo_several_100 rfl ?_
        replace hf := Option.some.inj hf; subst hf
        exact g_iret C d_Mo_several_101 () rfl
      · replace hf := g_in h hf
        refine g_iload (pc' := 89) C 0 d_Mo_several_87 rfl rfl ?_
        refine g_goto (tgt := 101) C d_Mo_several_89 rfl ?_
        replace hf := Option.some.inj hf; subst hf
        exact g_iret C d_Mo_several_101 () rfl
    · replace hf := g_in h hf
      refine g_lload (pc' := 57) C 1 d_Mo_several_55 rfl rfl ?_
      refine g_iload (pc' := 59) C 0 d_Mo_several_57 rfl rfl ?_
      refine g_i2l (pc' := 60) C d_Mo_several_59 rfl ?_
      have hb := g_ck hf
      replace hf := g_in hb hf
      refine g_ldiv (pc' := 61) C d_Mo_several_60 rfl hb ?_
      refine g_lstore (pc' := 63) (lv' := [(5, .long (v5 / (Int32.toInt64 v4))), (4, .int v4), (7, .int v7)]) C d_Mo_several_61 rfl (by decide) rfl ?_
      refine g_iinc (pc' := 66) (j := 2) (v := (v7 + (-1))) (lv' := [(7, .int (v7 + (-1))), (5, .long (v5 / (Int32.toInt64 v4))), (4, .int v4)]) C d_Mo_several_63 rfl rfl rfl (by decide) rfl ?_
      refine g_goto (tgt := 50) C d_Mo_several_66 rfl ?_
      refine g_lv (lv' := [(4, .int v4), (5, .long (v5 / (Int32.toInt64 v4))), (7, .int (v7 + (-1)))]) [2, 1, 0] rfl ?_
      exact ih v4 (v5 / (Int32.toInt64 v4)) (v7 + (-1)) hf
def f_Mo_several  (p1 : Int32) (p2 : Int64) : Option (Int32) :=
  if p1 < 0 then
    (some ((-1 : Int32)))
  else
    ((f_Mo_in  (p1 / (100 : Int32)) (2 : Int32) (9 : Int32)).bind fun r1 =>
    if r1 = true then
      (if (30 : Int32) < (p1 - p1 / (100 : Int32) * (100 : Int32)) then
        (some ((-1 : Int32)))
      else
        ((f_Mo_isFar  p2).bind fun r3 =>
        if r3 = true then
          (f_Mo_several_L50  3000 (p1 / (100 : Int32)) p2 (p1 - p1 / (100 : Int32) * (100 : Int32)))
        else
          (some ((-1 : Int32)))))
    else
      (some ((-1 : Int32))))
set_option maxRecDepth 20000 in
theorem c_Mo_several {l : Launch} {D : va_G} {dA : Nat → ClassId} {a_o : Nat}  {p1 : Int32} {p2 : Int64} {r0 : Int32}   (hf : f_Mo_several  p1 p2 = some r0) : CT l y_Mo_several prog_13_method_70_code 8 (some .int) { frames := 1, cells := 0, slots := 0, locals := 22 } D dA [.ref a_o, .int p1, .long p2] [] (some (.int r0)) (fun _ : Unit => []) := by
  refine ct_intro "OneLampModel" rfl (by decide +kernel) (Nat.le_of_ble_eq_true rfl) [(0, .ref a_o), (1, .int p1), (2, .long p2)] rfl (fun _ C => ?_)
  unfold f_Mo_several at hf
  refine g_iload_n (pc' := 1) C 1 d_Mo_several_0 rfl rfl ?_
  refine g_if_lt (pc' := 4) (tgt := 33) C d_Mo_several_1 rfl rfl (fun h => ?_) (fun h => ?_)
  · replace hf := g_ip h hf
    refine g_iconst (pc' := 34) (v := (-1)) C d_Mo_several_33 rfl rfl ?_
    replace hf := Option.some.inj hf; subst hf
    exact g_iret C d_Mo_several_34 () rfl
  · replace hf := g_in h hf
    refine g_iload_n (pc' := 5) C 1 d_Mo_several_4 rfl rfl ?_
    refine g_bipush (pc' := 7) (v := 100) C d_Mo_several_5 rfl rfl ?_
    refine g_idiv (pc' := 8) C d_Mo_several_7 rfl (by decide) ?_
    refine g_iconst (pc' := 9) (v := 2) C d_Mo_several_8 rfl rfl ?_
    refine g_bipush (pc' := 11) (v := 9) C d_Mo_several_9 rfl rfl ?_
    replace hf := g_bi hf; obtain ⟨r1, hc2, hf⟩ := hf
    refine g_callS (pc' := 14) (st1 := [.int (b2i r1)]) (ws1 := []) C (c_Mo_in (l := l) (D := D) (dA := dA)    hc2) yy_Mo_in mw_5_80 d_Mo_several_11 rfl [] rfl rfl (Nat.le_of_ble_eq_true rfl) ⟨Nat.le_of_ble_eq_true rfl, Nat.le_of_ble_eq_true rfl⟩ rfl rfl (Nat.zero_le _) (Nat.zero_le _) [] rfl (by decide +kernel) rfl (g_lay_sel _ _ _ _ [] (by decide +kernel) rfl (by decide +kernel) rfl rfl) rfl ?_
    refine g_if_eqb (pc' := 17) (tgt := 33) C d_Mo_several_14 rfl rfl (fun h => ?_) (fun h => ?_)
    · replace hf := g_bf h hf
      refine g_iconst (pc' := 34) (v := (-1)) C d_Mo_several_33 rfl rfl ?_
      replace hf := Option.some.inj hf; subst hf
      exact g_iret C d_Mo_several_34 () rfl
    · replace hf := g_bt h hf
      refine g_iload_n (pc' := 18) C 1 d_Mo_several_17 rfl rfl ?_
      refine g_bipush (pc' := 20) (v := 100) C d_Mo_several_18 rfl rfl ?_
      refine g_irem (pc' := 21) C d_Mo_several_20 rfl (by decide) ?_
      refine g_bipush (pc' := 23) (v := 30) C d_Mo_several_21 rfl rfl ?_
      refine g_icmp_gt (pc' := 26) (tgt := 33) C d_Mo_several_23 rfl rfl (fun h => ?_) (fun h => ?_)
      · replace hf := g_ip h hf
        refine g_iconst (pc' := 34) (v := (-1)) C d_Mo_several_33 rfl rfl ?_
        replace hf := Option.some.inj hf; subst hf
        exact g_iret C d_Mo_several_34 () rfl
      · replace hf := g_in h hf
        refine g_lload_n (pc' := 27) C 2 d_Mo_several_26 rfl rfl ?_
        replace hf := g_bi hf; obtain ⟨r3, hc4, hf⟩ := hf
        refine g_callS (pc' := 30) (st1 := [.int (b2i r3)]) (ws1 := []) C (c_Mo_isFar (l := l) (D := D) (dA := dA)    hc4) yy_Mo_isFar mw_6_91 d_Mo_several_27 rfl [] rfl rfl (Nat.le_of_ble_eq_true rfl) ⟨Nat.le_of_ble_eq_true rfl, Nat.le_of_ble_eq_true rfl⟩ rfl rfl (Nat.zero_le _) (Nat.zero_le _) [] rfl (by decide +kernel) rfl (g_lay_sel _ _ _ _ [] (by decide +kernel) rfl (by decide +kernel) rfl rfl) rfl ?_
        refine g_if_neb (pc' := 33) (tgt := 35) C d_Mo_several_30 rfl rfl (fun h => ?_) (fun h => ?_)
        · replace hf := g_bt h hf
          refine g_iload_n (pc' := 36) C 1 d_Mo_several_35 rfl rfl ?_
          refine g_bipush (pc' := 38) (v := 100) C d_Mo_several_36 rfl rfl ?_
          refine g_idiv (pc' := 39) C d_Mo_several_38 rfl (by decide) ?_
          refine g_istore (pc' := 41) (lv' := [(4, .int (p1 / (100 : Int32))), (0, .ref a_o), (1, .int p1), (2, .long p2)]) C d_Mo_several_39 rfl (by decide) rfl ?_
          refine g_lload_n (pc' := 42) C 3 d_Mo_several_41 rfl rfl ?_
          refine g_lstore (pc' := 44) (lv' := [(5, .long p2), (4, .int (p1 / (100 : Int32))), (0, .ref a_o), (1, .int p1), (2, .long p2)]) C d_Mo_several_42 rfl (by decide) rfl ?_
          refine g_iload_n (pc' := 45) C 3 d_Mo_several_44 rfl rfl ?_
          refine g_bipush (pc' := 47) (v := 100) C d_Mo_several_45 rfl rfl ?_
          refine g_irem (pc' := 48) C d_Mo_several_47 rfl (by decide) ?_
          refine g_istore (pc' := 50) (lv' := [(7, .int (p1 - p1 / (100 : Int32) * (100 : Int32))), (5, .long p2), (4, .int (p1 / (100 : Int32))), (0, .ref a_o), (1, .int p1), (2, .long p2)]) C d_Mo_several_48 rfl (by decide) rfl ?_
          refine g_lv (lv' := [(4, .int (p1 / (100 : Int32))), (5, .long p2), (7, .int (p1 - p1 / (100 : Int32) * (100 : Int32)))]) [2, 1, 0] rfl ?_
          exact w_Mo_several_L50 (a_o := a_o) C   3000 (p1 / (100 : Int32)) p2 (p1 - p1 / (100 : Int32) * (100 : Int32)) hf
        · replace hf := g_bf h hf
          refine g_iconst (pc' := 34) (v := (-1)) C d_Mo_several_33 rfl rfl ?_
          replace hf := Option.some.inj hf; subst hf
          exact g_iret C d_Mo_several_34 () rfl
