def y_Mo_undo : MethodName := ⟨"OneLampModel", "undo", "()I"⟩
theorem yy_Mo_undo : YV y_Mo_undo prog_13_method_18_code 1 (some .int) 0 := ⟨mw_5_117, mw_1_12, mw_5_115, mw_5_116, by decide +kernel, by decide +kernel, by decide +kernel⟩
theorem d_Mo_undo_0 : decode prog_13_method_18_code 0 = .ok (.aload_n 0, 1) := by decide +kernel
theorem d_Mo_undo_1 : decode prog_13_method_18_code 1 = .ok (.getfield 162, 3) := by decide +kernel
theorem d_Mo_undo_4 : decode prog_13_method_18_code 4 = .ok (.ifCond .ne 6, 3) := by decide +kernel
theorem d_Mo_undo_7 : decode prog_13_method_18_code 7 = .ok (.bipush (-5), 2) := by decide +kernel
theorem d_Mo_undo_9 : decode prog_13_method_18_code 9 = .ok (.ireturn, 1) := by decide +kernel
theorem d_Mo_undo_10 : decode prog_13_method_18_code 10 = .ok (.aload_n 0, 1) := by decide +kernel
theorem d_Mo_undo_11 : decode prog_13_method_18_code 11 = .ok (.dup, 1) := by decide +kernel
theorem d_Mo_undo_12 : decode prog_13_method_18_code 12 = .ok (.getfield 162, 3) := by decide +kernel
theorem d_Mo_undo_15 : decode prog_13_method_18_code 15 = .ok (.iconst 1, 1) := by decide +kernel
theorem d_Mo_undo_16 : decode prog_13_method_18_code 16 = .ok (.isub, 1) := by decide +kernel
theorem d_Mo_undo_17 : decode prog_13_method_18_code 17 = .ok (.putfield 162, 3) := by decide +kernel
theorem d_Mo_undo_20 : decode prog_13_method_18_code 20 = .ok (.aload_n 0, 1) := by decide +kernel
theorem d_Mo_undo_21 : decode prog_13_method_18_code 21 = .ok (.dup, 1) := by decide +kernel
theorem d_Mo_undo_22 : decode prog_13_method_18_code 22 = .ok (.getfield 159, 3) := by decide +kernel
theorem d_Mo_undo_25 : decode prog_13_method_18_code 25 = .ok (.iconst 1, 1) := by decide +kernel
theorem d_Mo_undo_26 : decode prog_13_method_18_code 26 = .ok (.iadd, 1) := by decide +kernel
theorem d_Mo_undo_27 : decode prog_13_method_18_code 27 = .ok (.putfield 159, 3) := by decide +kernel
theorem d_Mo_undo_30 : decode prog_13_method_18_code 30 = .ok (.aload_n 0, 1) := by decide +kernel
theorem d_Mo_undo_31 : decode prog_13_method_18_code 31 = .ok (.aload_n 0, 1) := by decide +kernel
theorem d_Mo_undo_32 : decode prog_13_method_18_code 32 = .ok (.getfield 33, 3) := by decide +kernel
theorem d_Mo_undo_35 : decode prog_13_method_18_code 35 = .ok (.aload_n 0, 1) := by decide +kernel
theorem d_Mo_undo_36 : decode prog_13_method_18_code 36 = .ok (.getfield 162, 3) := by decide +kernel
theorem d_Mo_undo_39 : decode prog_13_method_18_code 39 = .ok (.iaload, 1) := by decide +kernel
theorem d_Mo_undo_40 : decode prog_13_method_18_code 40 = .ok (.aload_n 0, 1) := by decide +kernel
theorem d_Mo_undo_41 : decode prog_13_method_18_code 41 = .ok (.getfield 36, 3) := by decide +kernel
theorem d_Mo_undo_44 : decode prog_13_method_18_code 44 = .ok (.aload_n 0, 1) := by decide +kernel
theorem d_Mo_undo_45 : decode prog_13_method_18_code 45 = .ok (.getfield 162, 3) := by decide +kernel
theorem d_Mo_undo_48 : decode prog_13_method_18_code 48 = .ok (.iaload, 1) := by decide +kernel
theorem d_Mo_undo_49 : decode prog_13_method_18_code 49 = .ok (.aload_n 0, 1) := by decide +kernel
theorem d_Mo_undo_50 : decode prog_13_method_18_code 50 = .ok (.getfield 39, 3) := by decide +kernel
theorem d_Mo_undo_53 : decode prog_13_method_18_code 53 = .ok (.aload_n 0, 1) := by decide +kernel
theorem d_Mo_undo_54 : decode prog_13_method_18_code 54 = .ok (.getfield 162, 3) := by decide +kernel
theorem d_Mo_undo_57 : decode prog_13_method_18_code 57 = .ok (.iaload, 1) := by decide +kernel
theorem d_Mo_undo_58 : decode prog_13_method_18_code 58 = .ok (.invokevirtual 165, 3) := by decide +kernel
theorem d_Mo_undo_61 : decode prog_13_method_18_code 61 = .ok (.aload_n 0, 1) := by decide +kernel
theorem d_Mo_undo_62 : decode prog_13_method_18_code 62 = .ok (.getfield 162, 3) := by decide +kernel
theorem d_Mo_undo_65 : decode prog_13_method_18_code 65 = .ok (.ireturn, 1) := by decide +kernel
def f_Mo_undo  (x_o_doneMany : Int32) (x_o_undoneMany : Int32) (x_o_changeOf : Nat → Int32) (x_o_changeAt : Nat → Int32) (x_o_before : Nat → Int32) (x_o_cost : Nat → Int32) : Option (Int32 × Int32 × Int32 × (Nat → Int32)) :=
  if x_o_doneMany = 0 then
    (some ((-5 : Int32), x_o_doneMany, x_o_undoneMany, x_o_cost))
  else
    (if (x_o_doneMany - (1 : Int32)) < 0 ∨ 40 ≤ Int32.toNatClampNeg (x_o_doneMany - (1 : Int32)) then none else
    if (x_o_doneMany - (1 : Int32)) < 0 ∨ 40 ≤ Int32.toNatClampNeg (x_o_doneMany - (1 : Int32)) then none else
    if (x_o_doneMany - (1 : Int32)) < 0 ∨ 40 ≤ Int32.toNatClampNeg (x_o_doneMany - (1 : Int32)) then none else
    (f_Mo_lays  (x_o_changeOf (Int32.toNatClampNeg (x_o_doneMany - (1 : Int32)))) (x_o_changeAt (Int32.toNatClampNeg (x_o_doneMany - (1 : Int32)))) (x_o_before (Int32.toNatClampNeg (x_o_doneMany - (1 : Int32)))) x_o_cost).bind fun u1 =>
    some ((x_o_doneMany - (1 : Int32)), (x_o_doneMany - (1 : Int32)), (x_o_undoneMany + (1 : Int32)), u1))
set_option maxRecDepth 20000 in
theorem c_Mo_undo {l : Launch} {D : va_G} {dA : Nat → ClassId} {a_o a_o_had a_o_told a_o_barred a_o_cost a_o_last a_o_often a_o_changeOf a_o_changeAt a_o_before a_o_behind a_o_tape a_o_act a_o_with a_o_lineMany a_o_testEnd a_o_lineEnd a_o_facts a_o_pile a_o_way a_o_bestWay a_o_wasHad a_o_wasLast a_o_keptHad a_o_keptTold a_o_keptLast a_o_keptOften a_o_kind a_o_traced a_o_holds a_o_size a_o_elements a_o_shifted : Nat} {x_o_code : Int32} {x_o_lamps : Int32} {x_o_at : Int32} {x_o_night : Int32} {x_o_spent : Int32} {x_o_rest : Int32} {x_o_shy : Int32} {x_o_hasBegun : Bool} {x_o_taped : Int32} {x_o_here : Int32} {x_o_fault : Int32} {x_o_open : Int32} {x_o_laid : Int32} {x_o_hasLaw : Bool} {x_o_bestMany : Int32} {x_o_wasAt : Int32} {x_o_wasNight : Int32} {x_o_hasImage : Bool} {x_o_keptLamps : Int32} {x_o_keptAt : Int32} {x_o_keptNight : Int32} {x_o_keptSpent : Int32} {x_o_bodies : Int32} {x_o_traces : Int32} {x_o_doneMany : Int32} {x_o_undoneMany : Int32} {x_o_changeOf : Nat → Int32} {x_o_changeAt : Nat → Int32} {x_o_before : Nat → Int32} {x_o_cost : Nat → Int32} {r0 : Int32} {o_x_o_doneMany : Int32} {o_x_o_undoneMany : Int32} {o_x_o_cost : Nat → Int32}   (hf : f_Mo_undo  x_o_doneMany x_o_undoneMany x_o_changeOf x_o_changeAt x_o_before x_o_cost = some (r0, o_x_o_doneMany, o_x_o_undoneMany, o_x_o_cost)) : CT l y_Mo_undo prog_13_method_18_code 1 (some .int) { frames := 1, cells := 0, slots := 0, locals := 23 } D dA [.ref a_o] [O_Mo a_o x_o_code x_o_lamps x_o_at x_o_night x_o_spent x_o_rest x_o_shy a_o_had a_o_told a_o_barred a_o_cost a_o_last a_o_often x_o_hasBegun x_o_doneMany x_o_undoneMany a_o_changeOf a_o_changeAt a_o_before a_o_behind a_o_tape x_o_taped x_o_here x_o_fault x_o_open x_o_laid a_o_act a_o_with a_o_lineMany a_o_testEnd a_o_lineEnd a_o_facts a_o_pile x_o_hasLaw a_o_way a_o_bestWay x_o_bestMany a_o_wasHad a_o_wasLast x_o_wasAt x_o_wasNight x_o_hasImage x_o_keptLamps x_o_keptAt x_o_keptNight x_o_keptSpent a_o_keptHad a_o_keptTold a_o_keptLast a_o_keptOften x_o_bodies a_o_kind x_o_traces a_o_traced a_o_holds a_o_size a_o_elements a_o_shifted, A_I dA a_o_changeOf 40 x_o_changeOf, A_I dA a_o_changeAt 40 x_o_changeAt, A_I dA a_o_before 40 x_o_before, A_I dA a_o_cost 10 x_o_cost] (some (.int r0)) (fun _ : Unit => [O_Mo a_o x_o_code x_o_lamps x_o_at x_o_night x_o_spent x_o_rest x_o_shy a_o_had a_o_told a_o_barred a_o_cost a_o_last a_o_often x_o_hasBegun o_x_o_doneMany o_x_o_undoneMany a_o_changeOf a_o_changeAt a_o_before a_o_behind a_o_tape x_o_taped x_o_here x_o_fault x_o_open x_o_laid a_o_act a_o_with a_o_lineMany a_o_testEnd a_o_lineEnd a_o_facts a_o_pile x_o_hasLaw a_o_way a_o_bestWay x_o_bestMany a_o_wasHad a_o_wasLast x_o_wasAt x_o_wasNight x_o_hasImage x_o_keptLamps x_o_keptAt x_o_keptNight x_o_keptSpent a_o_keptHad a_o_keptTold a_o_keptLast a_o_keptOften x_o_bodies a_o_kind x_o_traces a_o_traced a_o_holds a_o_size a_o_elements a_o_shifted, A_I dA a_o_changeOf 40 x_o_changeOf, A_I dA a_o_changeAt 40 x_o_changeAt, A_I dA a_o_before 40 x_o_before, A_I dA a_o_cost 10 o_x_o_cost]) := by
  refine ct_intro "OneLampModel" rfl (by decide +kernel) (Nat.le_of_ble_eq_true rfl) [(0, .ref a_o)] rfl (fun _ C => ?_)
  unfold f_Mo_undo at hf
  refine g_aload_n (pc' := 1) C 0 d_Mo_undo_0 rfl rfl ?_
  refine g_get (pc' := 4) C kf_Mo 14 mw_4_152 d_Mo_undo_1 rfl 0 rfl (by decide) rfl ?_
  refine g_if_ne (pc' := 7) (tgt := 10) C d_Mo_undo_4 rfl rfl (fun h => ?_) (fun h => ?_)
  · replace hf := g_in h hf
    refine g_aload_n (pc' := 11) C 0 d_Mo_undo_10 rfl rfl ?_
    refine g_dup (pc' := 12) C d_Mo_undo_11 rfl rfl ?_
    refine g_get (pc' := 15) C kf_Mo 14 mw_4_152 d_Mo_undo_12 rfl 0 rfl (by decide) rfl ?_
    refine g_iconst (pc' := 16) (v := 1) C d_Mo_undo_15 rfl rfl ?_
    refine g_isub (pc' := 17) C d_Mo_undo_16 rfl ?_
    refine g_put (pc' := 20) (ws' := [O_Mo a_o x_o_code x_o_lamps x_o_at x_o_night x_o_spent x_o_rest x_o_shy a_o_had a_o_told a_o_barred a_o_cost a_o_last a_o_often x_o_hasBegun (x_o_doneMany - (1 : Int32)) x_o_undoneMany a_o_changeOf a_o_changeAt a_o_before a_o_behind a_o_tape x_o_taped x_o_here x_o_fault x_o_open x_o_laid a_o_act a_o_with a_o_lineMany a_o_testEnd a_o_lineEnd a_o_facts a_o_pile x_o_hasLaw a_o_way a_o_bestWay x_o_bestMany a_o_wasHad a_o_wasLast x_o_wasAt x_o_wasNight x_o_hasImage x_o_keptLamps x_o_keptAt x_o_keptNight x_o_keptSpent a_o_keptHad a_o_keptTold a_o_keptLast a_o_keptOften x_o_bodies a_o_kind x_o_traces a_o_traced a_o_holds a_o_size a_o_elements a_o_shifted, A_I dA a_o_changeOf 40 x_o_changeOf, A_I dA a_o_changeAt 40 x_o_changeAt, A_I dA a_o_before 40 x_o_before, A_I dA a_o_cost 10 x_o_cost]) C kf_Mo 14 mw_4_152 d_Mo_undo_17 rfl 0 rfl (by decide) rfl rfl rfl (Nat.le_of_ble_eq_true rfl) rfl ?_
    refine g_aload_n (pc' := 21) C 0 d_Mo_undo_20 rfl rfl ?_
    refine g_dup (pc' := 22) C d_Mo_undo_21 rfl rfl ?_
    refine g_get (pc' := 25) C kf_Mo 15 mw_4_153 d_Mo_undo_22 rfl 0 rfl (by decide) rfl ?_
    refine g_iconst (pc' := 26) (v := 1) C d_Mo_undo_25 rfl rfl ?_
    refine g_iadd (pc' := 27) C d_Mo_undo_26 rfl ?_
    refine g_put (pc' := 30) (ws' := [O_Mo a_o x_o_code x_o_lamps x_o_at x_o_night x_o_spent x_o_rest x_o_shy a_o_had a_o_told a_o_barred a_o_cost a_o_last a_o_often x_o_hasBegun (x_o_doneMany - (1 : Int32)) (x_o_undoneMany + (1 : Int32)) a_o_changeOf a_o_changeAt a_o_before a_o_behind a_o_tape x_o_taped x_o_here x_o_fault x_o_open x_o_laid a_o_act a_o_with a_o_lineMany a_o_testEnd a_o_lineEnd a_o_facts a_o_pile x_o_hasLaw a_o_way a_o_bestWay x_o_bestMany a_o_wasHad a_o_wasLast x_o_wasAt x_o_wasNight x_o_hasImage x_o_keptLamps x_o_keptAt x_o_keptNight x_o_keptSpent a_o_keptHad a_o_keptTold a_o_keptLast a_o_keptOften x_o_bodies a_o_kind x_o_traces a_o_traced a_o_holds a_o_size a_o_elements a_o_shifted, A_I dA a_o_changeOf 40 x_o_changeOf, A_I dA a_o_changeAt 40 x_o_changeAt, A_I dA a_o_before 40 x_o_before, A_I dA a_o_cost 10 x_o_cost]) C kf_Mo 15 mw_4_153 d_Mo_undo_27 rfl 0 rfl (by decide) rfl rfl rfl (Nat.le_of_ble_eq_true rfl) rfl ?_
    refine g_aload_n (pc' := 31) C 0 d_Mo_undo_30 rfl rfl ?_
    refine g_aload_n (pc' := 32) C 0 d_Mo_undo_31 rfl rfl ?_
    refine g_get (pc' := 35) C kf_Mo 16 mw_4_154 d_Mo_undo_32 rfl 0 rfl (by decide) rfl ?_
    refine g_aload_n (pc' := 36) C 0 d_Mo_undo_35 rfl rfl ?_
    refine g_get (pc' := 39) C kf_Mo 14 mw_4_152 d_Mo_undo_36 rfl 0 rfl (by decide) rfl ?_
    have hb := g_ck hf
    replace hf := g_in hb hf
    refine g_iald (pc' := 40) C d_Mo_undo_39 rfl 1 rfl hb ?_
    refine g_aload_n (pc' := 41) C 0 d_Mo_undo_40 rfl rfl ?_
    refine g_get (pc' := 44) C kf_Mo 17 mw_4_155 d_Mo_undo_41 rfl 0 rfl (by decide) rfl ?_
    refine g_aload_n (pc' := 45) C 0 d_Mo_undo_44 rfl rfl ?_
    refine g_get (pc' := 48) C kf_Mo 14 mw_4_152 d_Mo_undo_45 rfl 0 rfl (by decide) rfl ?_
    have hb := g_ck hf
    replace hf := g_in hb hf
    refine g_iald (pc' := 49) C d_Mo_undo_48 rfl 2 rfl hb ?_
    refine g_aload_n (pc' := 50) C 0 d_Mo_undo_49 rfl rfl ?_
    refine g_get (pc' := 53) C kf_Mo 18 mw_4_156 d_Mo_undo_50 rfl 0 rfl (by decide) rfl ?_
    refine g_aload_n (pc' := 54) C 0 d_Mo_undo_53 rfl rfl ?_
    refine g_get (pc' := 57) C kf_Mo 14 mw_4_152 d_Mo_undo_54 rfl 0 rfl (by decide) rfl ?_
    have hb := g_ck hf
    replace hf := g_in hb hf
    refine g_iald (pc' := 58) C d_Mo_undo_57 rfl 3 rfl hb ?_
    replace hf := g_bi hf; obtain ⟨u1, hc2, hf⟩ := hf
    refine g_callV (pc' := 61) (st1 := []) (ws1 := [O_Mo a_o x_o_code x_o_lamps x_o_at x_o_night x_o_spent x_o_rest x_o_shy a_o_had a_o_told a_o_barred a_o_cost a_o_last a_o_often x_o_hasBegun (x_o_doneMany - (1 : Int32)) (x_o_undoneMany + (1 : Int32)) a_o_changeOf a_o_changeAt a_o_before a_o_behind a_o_tape x_o_taped x_o_here x_o_fault x_o_open x_o_laid a_o_act a_o_with a_o_lineMany a_o_testEnd a_o_lineEnd a_o_facts a_o_pile x_o_hasLaw a_o_way a_o_bestWay x_o_bestMany a_o_wasHad a_o_wasLast x_o_wasAt x_o_wasNight x_o_hasImage x_o_keptLamps x_o_keptAt x_o_keptNight x_o_keptSpent a_o_keptHad a_o_keptTold a_o_keptLast a_o_keptOften x_o_bodies a_o_kind x_o_traces a_o_traced a_o_holds a_o_size a_o_elements a_o_shifted, A_I dA a_o_changeOf 40 x_o_changeOf, A_I dA a_o_changeAt 40 x_o_changeAt, A_I dA a_o_before 40 x_o_before, A_I dA a_o_cost 10 u1]) C (c_Mo_lays (l := l) (D := D) (dA := dA) (a_o := a_o) (a_o_had := a_o_had) (a_o_told := a_o_told) (a_o_barred := a_o_barred) (a_o_cost := a_o_cost) (a_o_last := a_o_last) (a_o_often := a_o_often) (a_o_changeOf := a_o_changeOf) (a_o_changeAt := a_o_changeAt) (a_o_before := a_o_before) (a_o_behind := a_o_behind) (a_o_tape := a_o_tape) (a_o_act := a_o_act) (a_o_with := a_o_with) (a_o_lineMany := a_o_lineMany) (a_o_testEnd := a_o_testEnd) (a_o_lineEnd := a_o_lineEnd) (a_o_facts := a_o_facts) (a_o_pile := a_o_pile) (a_o_way := a_o_way) (a_o_bestWay := a_o_bestWay) (a_o_wasHad := a_o_wasHad) (a_o_wasLast := a_o_wasLast) (a_o_keptHad := a_o_keptHad) (a_o_keptTold := a_o_keptTold) (a_o_keptLast := a_o_keptLast) (a_o_keptOften := a_o_keptOften) (a_o_kind := a_o_kind) (a_o_traced := a_o_traced) (a_o_holds := a_o_holds) (a_o_size := a_o_size) (a_o_elements := a_o_elements) (a_o_shifted := a_o_shifted) (x_o_code := x_o_code) (x_o_lamps := x_o_lamps) (x_o_at := x_o_at) (x_o_night := x_o_night) (x_o_spent := x_o_spent) (x_o_rest := x_o_rest) (x_o_shy := x_o_shy) (x_o_hasBegun := x_o_hasBegun) (x_o_doneMany := (x_o_doneMany - (1 : Int32))) (x_o_undoneMany := (x_o_undoneMany + (1 : Int32))) (x_o_taped := x_o_taped) (x_o_here := x_o_here) (x_o_fault := x_o_fault) (x_o_open := x_o_open) (x_o_laid := x_o_laid) (x_o_hasLaw := x_o_hasLaw) (x_o_bestMany := x_o_bestMany) (x_o_wasAt := x_o_wasAt) (x_o_wasNight := x_o_wasNight) (x_o_hasImage := x_o_hasImage) (x_o_keptLamps := x_o_keptLamps) (x_o_keptAt := x_o_keptAt) (x_o_keptNight := x_o_keptNight) (x_o_keptSpent := x_o_keptSpent) (x_o_bodies := x_o_bodies) (x_o_traces := x_o_traces)   hc2) yy_Mo_lays kf_Mo rfl mw_5_118 d_Mo_undo_58 rfl [] rfl rfl (Nat.le_of_ble_eq_true rfl) ⟨Nat.le_of_ble_eq_true rfl, Nat.le_of_ble_eq_true rfl⟩ rfl rfl (Nat.zero_le _) (Nat.zero_le _) 0 rfl [0, 4] rfl (by decide +kernel) rfl (g_lay_sel _ _ _ _ [(0, true), (1, false), (2, false), (3, false), (1, true)] (by decide +kernel) rfl (by decide +kernel) rfl rfl) rfl ?_
    refine g_aload_n (pc' := 62) C 0 d_Mo_undo_61 rfl rfl ?_
    refine g_get (pc' := 65) C kf_Mo 14 mw_4_152 d_Mo_undo_62 rfl 0 rfl (by decide) rfl ?_
    replace hf := g_o2 hf; obtain ⟨h1, hf⟩ := hf; subst h1
    replace hf := g_o2 hf; obtain ⟨h1, hf⟩ := hf; subst h1
    replace hf := g_o2 hf; obtain ⟨h1, hf⟩ := hf; subst h1
    replace hf := Option.some.inj hf; subst hf
    exact g_iret C d_Mo_undo_65 () rfl
  · replace hf := g_ip h hf
    refine g_bipush (pc' := 9) (v := (-5)) C d_Mo_undo_7 rfl rfl ?_
    replace hf := g_o2 hf; obtain ⟨h1, hf⟩ := hf; subst h1
    replace hf := g_o2 hf; obtain ⟨h1, hf⟩ := hf; subst h1
    replace hf := g_o2 hf; obtain ⟨h1, hf⟩ := hf; subst h1
    replace hf := Option.some.inj hf; subst hf
    exact g_iret C d_Mo_undo_9 () rfl
def y_Mo_redo : MethodName := ⟨"OneLampModel", "redo", "()I"⟩
theorem yy_Mo_redo : YV y_Mo_redo prog_13_method_19_code 1 (some .int) 0 := ⟨mw_5_125, mw_1_12, mw_5_123, mw_5_124, by decide +kernel, by decide +kernel, by decide +kernel⟩
theorem d_Mo_redo_0 : decode prog_13_method_19_code 0 = .ok (.aload_n 0, 1) := by decide +kernel
theorem d_Mo_redo_1 : decode prog_13_method_19_code 1 = .ok (.getfield 159, 3) := by decide +kernel
theorem d_Mo_redo_4 : decode prog_13_method_19_code 4 = .ok (.ifCond .ne 6, 3) := by decide +kernel
theorem d_Mo_redo_7 : decode prog_13_method_19_code 7 = .ok (.bipush (-5), 2) := by decide +kernel
theorem d_Mo_redo_9 : decode prog_13_method_19_code 9 = .ok (.ireturn, 1) := by decide +kernel
theorem d_Mo_redo_10 : decode prog_13_method_19_code 10 = .ok (.aload_n 0, 1) := by decide +kernel
theorem d_Mo_redo_11 : decode prog_13_method_19_code 11 = .ok (.aload_n 0, 1) := by decide +kernel
theorem d_Mo_redo_12 : decode prog_13_method_19_code 12 = .ok (.getfield 33, 3) := by decide +kernel
theorem d_Mo_redo_15 : decode prog_13_method_19_code 15 = .ok (.aload_n 0, 1) := by decide +kernel
theorem d_Mo_redo_16 : decode prog_13_method_19_code 16 = .ok (.getfield 162, 3) := by decide +kernel
theorem d_Mo_redo_19 : decode prog_13_method_19_code 19 = .ok (.iaload, 1) := by decide +kernel
theorem d_Mo_redo_20 : decode prog_13_method_19_code 20 = .ok (.aload_n 0, 1) := by decide +kernel
theorem d_Mo_redo_21 : decode prog_13_method_19_code 21 = .ok (.getfield 36, 3) := by decide +kernel
theorem d_Mo_redo_24 : decode prog_13_method_19_code 24 = .ok (.aload_n 0, 1) := by decide +kernel
theorem d_Mo_redo_25 : decode prog_13_method_19_code 25 = .ok (.getfield 162, 3) := by decide +kernel
theorem d_Mo_redo_28 : decode prog_13_method_19_code 28 = .ok (.iaload, 1) := by decide +kernel
theorem d_Mo_redo_29 : decode prog_13_method_19_code 29 = .ok (.aload_n 0, 1) := by decide +kernel
theorem d_Mo_redo_30 : decode prog_13_method_19_code 30 = .ok (.getfield 42, 3) := by decide +kernel
theorem d_Mo_redo_33 : decode prog_13_method_19_code 33 = .ok (.aload_n 0, 1) := by decide +kernel
theorem d_Mo_redo_34 : decode prog_13_method_19_code 34 = .ok (.getfield 162, 3) := by decide +kernel
theorem d_Mo_redo_37 : decode prog_13_method_19_code 37 = .ok (.iaload, 1) := by decide +kernel
theorem d_Mo_redo_38 : decode prog_13_method_19_code 38 = .ok (.invokevirtual 165, 3) := by decide +kernel
theorem d_Mo_redo_41 : decode prog_13_method_19_code 41 = .ok (.aload_n 0, 1) := by decide +kernel
theorem d_Mo_redo_42 : decode prog_13_method_19_code 42 = .ok (.dup, 1) := by decide +kernel
theorem d_Mo_redo_43 : decode prog_13_method_19_code 43 = .ok (.getfield 162, 3) := by decide +kernel
theorem d_Mo_redo_46 : decode prog_13_method_19_code 46 = .ok (.iconst 1, 1) := by decide +kernel
theorem d_Mo_redo_47 : decode prog_13_method_19_code 47 = .ok (.iadd, 1) := by decide +kernel
theorem d_Mo_redo_48 : decode prog_13_method_19_code 48 = .ok (.putfield 162, 3) := by decide +kernel
theorem d_Mo_redo_51 : decode prog_13_method_19_code 51 = .ok (.aload_n 0, 1) := by decide +kernel
theorem d_Mo_redo_52 : decode prog_13_method_19_code 52 = .ok (.dup, 1) := by decide +kernel
theorem d_Mo_redo_53 : decode prog_13_method_19_code 53 = .ok (.getfield 159, 3) := by decide +kernel
theorem d_Mo_redo_56 : decode prog_13_method_19_code 56 = .ok (.iconst 1, 1) := by decide +kernel
theorem d_Mo_redo_57 : decode prog_13_method_19_code 57 = .ok (.isub, 1) := by decide +kernel
theorem d_Mo_redo_58 : decode prog_13_method_19_code 58 = .ok (.putfield 159, 3) := by decide +kernel
theorem d_Mo_redo_61 : decode prog_13_method_19_code 61 = .ok (.aload_n 0, 1) := by decide +kernel
theorem d_Mo_redo_62 : decode prog_13_method_19_code 62 = .ok (.getfield 159, 3) := by decide +kernel
theorem d_Mo_redo_65 : decode prog_13_method_19_code 65 = .ok (.ireturn, 1) := by decide +kernel
def f_Mo_redo  (x_o_doneMany : Int32) (x_o_undoneMany : Int32) (x_o_changeOf : Nat → Int32) (x_o_changeAt : Nat → Int32) (x_o_behind : Nat → Int32) (x_o_cost : Nat → Int32) : Option (Int32 × Int32 × Int32 × (Nat → Int32)) :=
  if x_o_undoneMany = 0 then
    (some ((-5 : Int32), x_o_doneMany, x_o_undoneMany, x_o_cost))
  else
    (if x_o_doneMany < 0 ∨ 40 ≤ Int32.toNatClampNeg x_o_doneMany then none else
    if x_o_doneMany < 0 ∨ 40 ≤ Int32.toNatClampNeg x_o_doneMany then none else
    if x_o_doneMany < 0 ∨ 40 ≤ Int32.toNatClampNeg x_o_doneMany then none else
    (f_Mo_lays  (x_o_changeOf (Int32.toNatClampNeg x_o_doneMany)) (x_o_changeAt (Int32.toNatClampNeg x_o_doneMany)) (x_o_behind (Int32.toNatClampNeg x_o_doneMany)) x_o_cost).bind fun u1 =>
    some ((x_o_undoneMany - (1 : Int32)), (x_o_doneMany + (1 : Int32)), (x_o_undoneMany - (1 : Int32)), u1))
set_option maxRecDepth 20000 in
theorem c_Mo_redo {l : Launch} {D : va_G} {dA : Nat → ClassId} {a_o a_o_had a_o_told a_o_barred a_o_cost a_o_last a_o_often a_o_changeOf a_o_changeAt a_o_before a_o_behind a_o_tape a_o_act a_o_with a_o_lineMany a_o_testEnd a_o_lineEnd a_o_facts a_o_pile a_o_way a_o_bestWay a_o_wasHad a_o_wasLast a_o_keptHad a_o_keptTold a_o_keptLast a_o_keptOften a_o_kind a_o_traced a_o_holds a_o_size a_o_elements a_o_shifted : Nat} {x_o_code : Int32} {x_o_lamps : Int32} {x_o_at : Int32} {x_o_night : Int32} {x_o_spent : Int32} {x_o_rest : Int32} {x_o_shy : Int32} {x_o_hasBegun : Bool} {x_o_taped : Int32} {x_o_here : Int32} {x_o_fault : Int32} {x_o_open : Int32} {x_o_laid : Int32} {x_o_hasLaw : Bool} {x_o_bestMany : Int32} {x_o_wasAt : Int32} {x_o_wasNight : Int32} {x_o_hasImage : Bool} {x_o_keptLamps : Int32} {x_o_keptAt : Int32} {x_o_keptNight : Int32} {x_o_keptSpent : Int32} {x_o_bodies : Int32} {x_o_traces : Int32} {x_o_doneMany : Int32} {x_o_undoneMany : Int32} {x_o_changeOf : Nat → Int32} {x_o_changeAt : Nat → Int32} {x_o_behind : Nat → Int32} {x_o_cost : Nat → Int32} {r0 : Int32} {o_x_o_doneMany : Int32} {o_x_o_undoneMany : Int32} {o_x_o_cost : Nat → Int32}   (hf : f_Mo_redo  x_o_doneMany x_o_undoneMany x_o_changeOf x_o_changeAt x_o_behind x_o_cost = some (r0, o_x_o_doneMany, o_x_o_undoneMany, o_x_o_cost)) : CT l y_Mo_redo prog_13_method_19_code 1 (some .int) { frames := 1, cells := 0, slots := 0, locals := 23 } D dA [.ref a_o] [O_Mo a_o x_o_code x_o_lamps x_o_at x_o_night x_o_spent x_o_rest x_o_shy a_o_had a_o_told a_o_barred a_o_cost a_o_last a_o_often x_o_hasBegun x_o_doneMany x_o_undoneMany a_o_changeOf a_o_changeAt a_o_before a_o_behind a_o_tape x_o_taped x_o_here x_o_fault x_o_open x_o_laid a_o_act a_o_with a_o_lineMany a_o_testEnd a_o_lineEnd a_o_facts a_o_pile x_o_hasLaw a_o_way a_o_bestWay x_o_bestMany a_o_wasHad a_o_wasLast x_o_wasAt x_o_wasNight x_o_hasImage x_o_keptLamps x_o_keptAt x_o_keptNight x_o_keptSpent a_o_keptHad a_o_keptTold a_o_keptLast a_o_keptOften x_o_bodies a_o_kind x_o_traces a_o_traced a_o_holds a_o_size a_o_elements a_o_shifted, A_I dA a_o_changeOf 40 x_o_changeOf, A_I dA a_o_changeAt 40 x_o_changeAt, A_I dA a_o_behind 40 x_o_behind, A_I dA a_o_cost 10 x_o_cost] (some (.int r0)) (fun _ : Unit => [O_Mo a_o x_o_code x_o_lamps x_o_at x_o_night x_o_spent x_o_rest x_o_shy a_o_had a_o_told a_o_barred a_o_cost a_o_last a_o_often x_o_hasBegun o_x_o_doneMany o_x_o_undoneMany a_o_changeOf a_o_changeAt a_o_before a_o_behind a_o_tape x_o_taped x_o_here x_o_fault x_o_open x_o_laid a_o_act a_o_with a_o_lineMany a_o_testEnd a_o_lineEnd a_o_facts a_o_pile x_o_hasLaw a_o_way a_o_bestWay x_o_bestMany a_o_wasHad a_o_wasLast x_o_wasAt x_o_wasNight x_o_hasImage x_o_keptLamps x_o_keptAt x_o_keptNight x_o_keptSpent a_o_keptHad a_o_keptTold a_o_keptLast a_o_keptOften x_o_bodies a_o_kind x_o_traces a_o_traced a_o_holds a_o_size a_o_elements a_o_shifted, A_I dA a_o_changeOf 40 x_o_changeOf, A_I dA a_o_changeAt 40 x_o_changeAt, A_I dA a_o_behind 40 x_o_behind, A_I dA a_o_cost 10 o_x_o_cost]) := by
  refine ct_intro "OneLampModel" rfl (by decide +kernel) (Nat.le_of_ble_eq_true rfl) [(0, .ref a_o)] rfl (fun _ C => ?_)
  unfold f_Mo_redo at hf
  refine g_aload_n (pc' := 1) C 0 d_Mo_redo_0 rfl rfl ?_
  refine g_get (pc' := 4) C kf_Mo 15 mw_4_153 d_Mo_redo_1 rfl 0 rfl (by decide) rfl ?_
  refine g_if_ne (pc' := 7) (tgt := 10) C d_Mo_redo_4 rfl rfl (fun h => ?_) (fun h => ?_)
  · replace hf := g_in h hf
    refine g_aload_n (pc' := 11) C 0 d_Mo_redo_10 rfl rfl ?_
    refine g_aload_n (pc' := 12) C 0 d_Mo_redo_11 rfl rfl ?_
    refine g_get (pc' := 15) C kf_Mo 16 mw_4_154 d_Mo_redo_12 rfl 0 rfl (by decide) rfl ?_
    refine g_aload_n (pc' := 16) C 0 d_Mo_redo_15 rfl rfl ?_
    refine g_get (pc' := 19) C kf_Mo 14 mw_4_152 d_Mo_redo_16 rfl 0 rfl (by decide) rfl ?_
    have hb := g_ck hf
    replace hf := g_in hb hf
    refine g_iald (pc' := 20) C d_Mo_redo_19 rfl 1 rfl hb ?_
    refine g_aload_n (pc' := 21) C 0 d_Mo_redo_20 rfl rfl ?_
    refine g_get (pc' := 24) C kf_Mo 17 mw_4_155 d_Mo_redo_21 rfl 0 rfl (by decide) rfl ?_
    refine g_aload_n (pc' := 25) C 0 d_Mo_redo_24 rfl rfl ?_
    refine g_get (pc' := 28) C kf_Mo 14 mw_4_152 d_Mo_redo_25 rfl 0 rfl (by decide) rfl ?_
    have hb := g_ck hf
    replace hf := g_in hb hf
    refine g_iald (pc' := 29) C d_Mo_redo_28 rfl 2 rfl hb ?_
    refine g_aload_n (pc' := 30) C 0 d_Mo_redo_29 rfl rfl ?_
    refine g_get (pc' := 33) C kf_Mo 19 mw_4_157 d_Mo_redo_30 rfl 0 rfl (by decide) rfl ?_
    refine g_aload_n (pc' := 34) C 0 d_Mo_redo_33 rfl rfl ?_
    refine g_get (pc' := 37) C kf_Mo 14 mw_4_152 d_Mo_redo_34 rfl 0 rfl (by decide) rfl ?_
    have hb := g_ck hf
    replace hf := g_in hb hf
    refine g_iald (pc' := 38) C d_Mo_redo_37 rfl 3 rfl hb ?_
    replace hf := g_bi hf; obtain ⟨u1, hc2, hf⟩ := hf
    refine g_callV (pc' := 41) (st1 := []) (ws1 := [O_Mo a_o x_o_code x_o_lamps x_o_at x_o_night x_o_spent x_o_rest x_o_shy a_o_had a_o_told a_o_barred a_o_cost a_o_last a_o_often x_o_hasBegun x_o_doneMany x_o_undoneMany a_o_changeOf a_o_changeAt a_o_before a_o_behind a_o_tape x_o_taped x_o_here x_o_fault x_o_open x_o_laid a_o_act a_o_with a_o_lineMany a_o_testEnd a_o_lineEnd a_o_facts a_o_pile x_o_hasLaw a_o_way a_o_bestWay x_o_bestMany a_o_wasHad a_o_wasLast x_o_wasAt x_o_wasNight x_o_hasImage x_o_keptLamps x_o_keptAt x_o_keptNight x_o_keptSpent a_o_keptHad a_o_keptTold a_o_keptLast a_o_keptOften x_o_bodies a_o_kind x_o_traces a_o_traced a_o_holds a_o_size a_o_elements a_o_shifted, A_I dA a_o_changeOf 40 x_o_changeOf, A_I dA a_o_changeAt 40 x_o_changeAt, A_I dA a_o_behind 40 x_o_behind, A_I dA a_o_cost 10 u1]) C (c_Mo_lays (l := l) (D := D) (dA := dA) (a_o := a_o) (a_o_had := a_o_had) (a_o_told := a_o_told) (a_o_barred := a_o_barred) (a_o_cost := a_o_cost) (a_o_last := a_o_last) (a_o_often := a_o_often) (a_o_changeOf := a_o_changeOf) (a_o_changeAt := a_o_changeAt) (a_o_before := a_o_before) (a_o_behind := a_o_behind) (a_o_tape := a_o_tape) (a_o_act := a_o_act) (a_o_with := a_o_with) (a_o_lineMany := a_o_lineMany) (a_o_testEnd := a_o_testEnd) (a_o_lineEnd := a_o_lineEnd) (a_o_facts := a_o_facts) (a_o_pile := a_o_pile) (a_o_way := a_o_way) (a_o_bestWay := a_o_bestWay) (a_o_wasHad := a_o_wasHad) (a_o_wasLast := a_o_wasLast) (a_o_keptHad := a_o_keptHad) (a_o_keptTold := a_o_keptTold) (a_o_keptLast := a_o_keptLast) (a_o_keptOften := a_o_keptOften) (a_o_kind := a_o_kind) (a_o_traced := a_o_traced) (a_o_holds := a_o_holds) (a_o_size := a_o_size) (a_o_elements := a_o_elements) (a_o_shifted := a_o_shifted) (x_o_code := x_o_code) (x_o_lamps := x_o_lamps) (x_o_at := x_o_at) (x_o_night := x_o_night) (x_o_spent := x_o_spent) (x_o_rest := x_o_rest) (x_o_shy := x_o_shy) (x_o_hasBegun := x_o_hasBegun) (x_o_doneMany := x_o_doneMany) (x_o_undoneMany := x_o_undoneMany) (x_o_taped := x_o_taped) (x_o_here := x_o_here) (x_o_fault := x_o_fault) (x_o_open := x_o_open) (x_o_laid := x_o_laid) (x_o_hasLaw := x_o_hasLaw) (x_o_bestMany := x_o_bestMany) (x_o_wasAt := x_o_wasAt) (x_o_wasNight := x_o_wasNight) (x_o_hasImage := x_o_hasImage) (x_o_keptLamps := x_o_keptLamps) (x_o_keptAt := x_o_keptAt) (x_o_keptNight := x_o_keptNight) (x_o_keptSpent := x_o_keptSpent) (x_o_bodies := x_o_bodies) (x_o_traces := x_o_traces)   hc2) yy_Mo_lays kf_Mo rfl mw_5_118 d_Mo_redo_38 rfl [] rfl rfl (Nat.le_of_ble_eq_true rfl) ⟨Nat.le_of_ble_eq_true rfl, Nat.le_of_ble_eq_true rfl⟩ rfl rfl (Nat.zero_le _) (Nat.zero_le _) 0 rfl [0, 4] rfl (by decide +kernel) rfl (g_lay_sel _ _ _ _ [(0, true), (1, false), (2, false), (3, false), (1, true)] (by decide +kernel) rfl (by decide +kernel) rfl rfl) rfl ?_
    refine g_aload_n (pc' := 42) C 0 d_Mo_redo_41 rfl rfl ?_
    refine g_dup (pc' := 43) C d_Mo_redo_42 rfl rfl ?_
    refine g_get (pc' := 46) C kf_Mo 14 mw_4_152 d_Mo_redo_43 rfl 0 rfl (by decide) rfl ?_
    refine g_iconst (pc' := 47) (v := 1) C d_Mo_redo_46 rfl rfl ?_
    refine g_iadd (pc' := 48) C d_Mo_redo_47 rfl ?_
    refine g_put (pc' := 51) (ws' := [O_Mo a_o x_o_code x_o_lamps x_o_at x_o_night x_o_spent x_o_rest x_o_shy a_o_had a_o_told a_o_barred a_o_cost a_o_last a_o_often x_o_hasBegun (x_o_doneMany + (1 : Int32)) x_o_undoneMany a_o_changeOf a_o_changeAt a_o_before a_o_behind a_o_tape x_o_taped x_o_here x_o_fault x_o_open x_o_laid a_o_act a_o_with a_o_lineMany a_o_testEnd a_o_lineEnd a_o_facts a_o_pile x_o_hasLaw a_o_way a_o_bestWay x_o_bestMany a_o_wasHad a_o_wasLast x_o_wasAt x_o_wasNight x_o_hasImage x_o_keptLamps x_o_keptAt x_o_keptNight x_o_keptSpent a_o_keptHad a_o_keptTold a_o_keptLast a_o_keptOften x_o_bodies a_o_kind x_o_traces a_o_traced a_o_holds a_o_size a_o_elements a_o_shifted, A_I dA a_o_changeOf 40 x_o_changeOf, A_I dA a_o_changeAt 40 x_o_changeAt, A_I dA a_o_behind 40 x_o_behind, A_I dA a_o_cost 10 u1]) C kf_Mo 14 mw_4_152 d_Mo_redo_48 rfl 0 rfl (by decide) rfl rfl rfl (Nat.le_of_ble_eq_true rfl) rfl ?_
    refine g_aload_n (pc' := 52) C 0 d_Mo_redo_51 rfl rfl ?_
    refine g_dup (pc' := 53) C d_Mo_redo_52 rfl rfl ?_
    refine g_get (pc' := 56) C kf_Mo 15 mw_4_153 d_Mo_redo_53 rfl 0 rfl (by decide) rfl ?_
    refine g_iconst (pc' := 57) (v := 1) C d_Mo_redo_56 rfl rfl ?_
    refine g_isub (pc' := 58) C d_Mo_redo_57 rfl ?_
    refine g_put (pc' := 61) (ws' := [O_Mo a_o x_o_code x_o_lamps x_o_at x_o_night x_o_spent x_o_rest x_o_shy a_o_had a_o_told a_o_barred a_o_cost a_o_last a_o_often x_o_hasBegun (x_o_doneMany + (1 : Int32)) (x_o_undoneMany - (1 : Int32)) a_o_changeOf a_o_changeAt a_o_before a_o_behind a_o_tape x_o_taped x_o_here x_o_fault x_o_open x_o_laid a_o_act a_o_with a_o_lineMany a_o_testEnd a_o_lineEnd a_o_facts a_o_pile x_o_hasLaw a_o_way a_o_bestWay x_o_bestMany a_o_wasHad a_o_wasLast x_o_wasAt x_o_wasNight x_o_hasImage x_o_keptLamps x_o_keptAt x_o_keptNight x_o_keptSpent a_o_keptHad a_o_keptTold a_o_keptLast a_o_keptOften x_o_bodies a_o_kind x_o_traces a_o_traced a_o_holds a_o_size a_o_elements a_o_shifted, A_I dA a_o_changeOf 40 x_o_changeOf, A_I dA a_o_changeAt 40 x_o_changeAt, A_I dA a_o_behind 40 x_o_behind, A_I dA a_o_cost 10 u1]) C kf_Mo 15 mw_4_153 d_Mo_redo_58 rfl 0 rfl (by decide) rfl rfl rfl (Nat.le_of_ble_eq_true rfl) rfl ?_
    refine g_aload_n (pc' := 62) C 0 d_Mo_redo_61 rfl rfl ?_
    refine g_get (pc' := 65) C kf_Mo 15 mw_4_153 d_Mo_redo_62 rfl 0 rfl (by decide) rfl ?_
    replace hf := g_o2 hf; obtain ⟨h1, hf⟩ := hf; subst h1
    replace hf := g_o2 hf; obtain ⟨h1, hf⟩ := hf; subst h1
    replace hf := g_o2 hf; obtain ⟨h1, hf⟩ := hf; subst h1
    replace hf := Option.some.inj hf; subst hf
    exact g_iret C d_Mo_redo_65 () rfl
  · replace hf := g_ip h hf
    refine g_bipush (pc' := 9) (v := (-5)) C d_Mo_redo_7 rfl rfl ?_
    replace hf := g_o2 hf; obtain ⟨h1, hf⟩ := hf; subst h1
    replace hf := g_o2 hf; obtain ⟨h1, hf⟩ := hf; subst h1
    replace hf := g_o2 hf; obtain ⟨h1, hf⟩ := hf; subst h1
    replace hf := Option.some.inj hf; subst hf
    exact g_iret C d_Mo_redo_9 () rfl
def y_Mo_cost : MethodName := ⟨"OneLampModel", "cost", "(II)I"⟩
theorem yy_Mo_cost : YV y_Mo_cost prog_13_method_20_code 3 (some .int) 2 := ⟨mw_5_129, mw_1_12, mw_5_127, mw_5_128, by decide +kernel, by decide +kernel, by decide +kernel⟩
theorem d_Mo_cost_0 : decode prog_13_method_20_code 0 = .ok (.iload_n 1, 1) := by decide +kernel
theorem d_Mo_cost_1 : decode prog_13_method_20_code 1 = .ok (.iconst 0, 1) := by decide +kernel
theorem d_Mo_cost_2 : decode prog_13_method_20_code 2 = .ok (.bipush 9, 2) := by decide +kernel
theorem d_Mo_cost_4 : decode prog_13_method_20_code 4 = .ok (.invokestatic 121, 3) := by decide +kernel
theorem d_Mo_cost_7 : decode prog_13_method_20_code 7 = .ok (.ifCond .eq 23, 3) := by decide +kernel
theorem d_Mo_cost_10 : decode prog_13_method_20_code 10 = .ok (.iload_n 2, 1) := by decide +kernel
theorem d_Mo_cost_11 : decode prog_13_method_20_code 11 = .ok (.iconst 0, 1) := by decide +kernel
theorem d_Mo_cost_12 : decode prog_13_method_20_code 12 = .ok (.bipush 9, 2) := by decide +kernel
theorem d_Mo_cost_14 : decode prog_13_method_20_code 14 = .ok (.invokestatic 121, 3) := by decide +kernel
theorem d_Mo_cost_17 : decode prog_13_method_20_code 17 = .ok (.ifCond .eq 13, 3) := by decide +kernel
theorem d_Mo_cost_20 : decode prog_13_method_20_code 20 = .ok (.aload_n 0, 1) := by decide +kernel
theorem d_Mo_cost_21 : decode prog_13_method_20_code 21 = .ok (.iconst 0, 1) := by decide +kernel
theorem d_Mo_cost_22 : decode prog_13_method_20_code 22 = .ok (.iload_n 1, 1) := by decide +kernel
theorem d_Mo_cost_23 : decode prog_13_method_20_code 23 = .ok (.iload_n 2, 1) := by decide +kernel
theorem d_Mo_cost_24 : decode prog_13_method_20_code 24 = .ok (.invokevirtual 169, 3) := by decide +kernel
theorem d_Mo_cost_27 : decode prog_13_method_20_code 27 = .ok (.goto 4, 3) := by decide +kernel
theorem d_Mo_cost_30 : decode prog_13_method_20_code 30 = .ok (.iconst (-1), 1) := by decide +kernel
theorem d_Mo_cost_31 : decode prog_13_method_20_code 31 = .ok (.ireturn, 1) := by decide +kernel
def f_Mo_cost  (p1 : Int32) (p2 : Int32) (x_o_doneMany : Int32) (x_o_undoneMany : Int32) (x_o_cost : Nat → Int32) (x_o_changeOf : Nat → Int32) (x_o_changeAt : Nat → Int32) (x_o_before : Nat → Int32) (x_o_behind : Nat → Int32) : Option (Int32 × Int32 × Int32 × (Nat → Int32) × (Nat → Int32) × (Nat → Int32) × (Nat → Int32) × (Nat → Int32)) :=
  (f_Mo_in  p1 (0 : Int32) (9 : Int32)).bind fun r1 =>
  if r1 = true then
    ((f_Mo_in  p2 (0 : Int32) (9 : Int32)).bind fun r3 =>
    if r3 = true then
      ((f_Mo_changes  (0 : Int32) p1 p2 x_o_doneMany x_o_undoneMany x_o_cost x_o_changeOf x_o_changeAt x_o_before x_o_behind).bind fun (r5, u6, u7, u8, u9, u10, u11, u12) =>
      some (r5, u6, u7, u8, u9, u10, u11, u12))
    else
      (some ((-1 : Int32), x_o_doneMany, x_o_undoneMany, x_o_cost, x_o_changeOf, x_o_changeAt, x_o_before, x_o_behind)))
  else
    (some ((-1 : Int32), x_o_doneMany, x_o_undoneMany, x_o_cost, x_o_changeOf, x_o_changeAt, x_o_before, x_o_behind))
set_option maxRecDepth 20000 in
theorem c_Mo_cost {l : Launch} {D : va_G} {dA : Nat → ClassId} {a_o a_o_had a_o_told a_o_barred a_o_cost a_o_last a_o_often a_o_changeOf a_o_changeAt a_o_before a_o_behind a_o_tape a_o_act a_o_with a_o_lineMany a_o_testEnd a_o_lineEnd a_o_facts a_o_pile a_o_way a_o_bestWay a_o_wasHad a_o_wasLast a_o_keptHad a_o_keptTold a_o_keptLast a_o_keptOften a_o_kind a_o_traced a_o_holds a_o_size a_o_elements a_o_shifted : Nat} {x_o_code : Int32} {x_o_lamps : Int32} {x_o_at : Int32} {x_o_night : Int32} {x_o_spent : Int32} {x_o_rest : Int32} {x_o_shy : Int32} {x_o_hasBegun : Bool} {x_o_taped : Int32} {x_o_here : Int32} {x_o_fault : Int32} {x_o_open : Int32} {x_o_laid : Int32} {x_o_hasLaw : Bool} {x_o_bestMany : Int32} {x_o_wasAt : Int32} {x_o_wasNight : Int32} {x_o_hasImage : Bool} {x_o_keptLamps : Int32} {x_o_keptAt : Int32} {x_o_keptNight : Int32} {x_o_keptSpent : Int32} {x_o_bodies : Int32} {x_o_traces : Int32} {p1 : Int32} {p2 : Int32} {x_o_doneMany : Int32} {x_o_undoneMany : Int32} {x_o_cost : Nat → Int32} {x_o_changeOf : Nat → Int32} {x_o_changeAt : Nat → Int32} {x_o_before : Nat → Int32} {x_o_behind : Nat → Int32} {r0 : Int32} {o_x_o_doneMany : Int32} {o_x_o_undoneMany : Int32} {o_x_o_cost : Nat → Int32} {o_x_o_changeOf : Nat → Int32} {o_x_o_changeAt : Nat → Int32} {o_x_o_before : Nat → Int32} {o_x_o_behind : Nat → Int32}   (hf : f_Mo_cost  p1 p2 x_o_doneMany x_o_undoneMany x_o_cost x_o_changeOf x_o_changeAt x_o_before x_o_behind = some (r0, o_x_o_doneMany, o_x_o_undoneMany, o_x_o_cost, o_x_o_changeOf, o_x_o_changeAt, o_x_o_before, o_x_o_behind)) : CT l y_Mo_cost prog_13_method_20_code 3 (some .int) { frames := 2, cells := 0, slots := 0, locals := 48 } D dA [.ref a_o, .int p1, .int p2] [O_Mo a_o x_o_code x_o_lamps x_o_at x_o_night x_o_spent x_o_rest x_o_shy a_o_had a_o_told a_o_barred a_o_cost a_o_last a_o_often x_o_hasBegun x_o_doneMany x_o_undoneMany a_o_changeOf a_o_changeAt a_o_before a_o_behind a_o_tape x_o_taped x_o_here x_o_fault x_o_open x_o_laid a_o_act a_o_with a_o_lineMany a_o_testEnd a_o_lineEnd a_o_facts a_o_pile x_o_hasLaw a_o_way a_o_bestWay x_o_bestMany a_o_wasHad a_o_wasLast x_o_wasAt x_o_wasNight x_o_hasImage x_o_keptLamps x_o_keptAt x_o_keptNight x_o_keptSpent a_o_keptHad a_o_keptTold a_o_keptLast a_o_keptOften x_o_bodies a_o_kind x_o_traces a_o_traced a_o_holds a_o_size a_o_elements a_o_shifted, A_I dA a_o_cost 10 x_o_cost, A_I dA a_o_changeOf 40 x_o_changeOf, A_I dA a_o_changeAt 40 x_o_changeAt, A_I dA a_o_before 40 x_o_before, A_I dA a_o_behind 40 x_o_behind] (some (.int r0)) (fun _ : Unit => [O_Mo a_o x_o_code x_o_lamps x_o_at x_o_night x_o_spent x_o_rest x_o_shy a_o_had a_o_told a_o_barred a_o_cost a_o_last a_o_often x_o_hasBegun o_x_o_doneMany o_x_o_undoneMany a_o_changeOf a_o_changeAt a_o_before a_o_behind a_o_tape x_o_taped x_o_here x_o_fault x_o_open x_o_laid a_o_act a_o_with a_o_lineMany a_o_testEnd a_o_lineEnd a_o_facts a_o_pile x_o_hasLaw a_o_way a_o_bestWay x_o_bestMany a_o_wasHad a_o_wasLast x_o_wasAt x_o_wasNight x_o_hasImage x_o_keptLamps x_o_keptAt x_o_keptNight x_o_keptSpent a_o_keptHad a_o_keptTold a_o_keptLast a_o_keptOften x_o_bodies a_o_kind x_o_traces a_o_traced a_o_holds a_o_size a_o_elements a_o_shifted, A_I dA a_o_cost 10 o_x_o_cost, A_I dA a_o_changeOf 40 o_x_o_changeOf, A_I dA a_o_changeAt 40 o_x_o_changeAt, A_I dA a_o_before 40 o_x_o_before, A_I dA a_o_behind 40 o_x_o_behind]) := by
  refine ct_intro "OneLampModel" rfl (by decide +kernel) (Nat.le_of_ble_eq_true rfl) [(0, .ref a_o), (1, .int p1), (2, .int p2)] rfl (fun _ C => ?_)
  unfold f_Mo_cost at hf
  refine g_iload_n (pc' := 1) C 1 d_Mo_cost_0 rfl rfl ?_
  refine g_iconst (pc' := 2) (v := 0) C d_Mo_cost_1 rfl rfl ?_
  refine g_bipush (pc' := 4) (v := 9) C d_Mo_cost_2 rfl rfl ?_
  replace hf := g_bi hf; obtain ⟨r1, hc2, hf⟩ := hf
  refine g_callS (pc' := 7) (st1 := [.int (b2i r1)]) (ws1 := [O_Mo a_o x_o_code x_o_lamps x_o_at x_o_night x_o_spent x_o_rest x_o_shy a_o_had a_o_told a_o_barred a_o_cost a_o_last a_o_often x_o_hasBegun x_o_doneMany x_o_undoneMany a_o_changeOf a_o_changeAt a_o_before a_o_behind a_o_tape x_o_taped x_o_here x_o_fault x_o_open x_o_laid a_o_act a_o_with a_o_lineMany a_o_testEnd a_o_lineEnd a_o_facts a_o_pile x_o_hasLaw a_o_way a_o_bestWay x_o_bestMany a_o_wasHad a_o_wasLast x_o_wasAt x_o_wasNight x_o_hasImage x_o_keptLamps x_o_keptAt x_o_keptNight x_o_keptSpent a_o_keptHad a_o_keptTold a_o_keptLast a_o_keptOften x_o_bodies a_o_kind x_o_traces a_o_traced a_o_holds a_o_size a_o_elements a_o_shifted, A_I dA a_o_cost 10 x_o_cost, A_I dA a_o_changeOf 40 x_o_changeOf, A_I dA a_o_changeAt 40 x_o_changeAt, A_I dA a_o_before 40 x_o_before, A_I dA a_o_behind 40 x_o_behind]) C (c_Mo_in (l := l) (D := D) (dA := dA)    hc2) yy_Mo_in mw_5_80 d_Mo_cost_4 rfl [] rfl rfl (Nat.le_of_ble_eq_true rfl) ⟨Nat.le_of_ble_eq_true rfl, Nat.le_of_ble_eq_true rfl⟩ rfl rfl (Nat.zero_le _) (Nat.zero_le _) [] rfl (by decide +kernel) rfl (g_lay_sel _ _ _ _ [(0, false), (1, false), (2, false), (3, false), (4, false), (5, false)] (by decide +kernel) rfl (by decide +kernel) rfl rfl) rfl ?_
  refine g_if_eqb (pc' := 10) (tgt := 30) C d_Mo_cost_7 rfl rfl (fun h => ?_) (fun h => ?_)
  · replace hf := g_bf h hf
    refine g_iconst (pc' := 31) (v := (-1)) C d_Mo_cost_30 rfl rfl ?_
    replace hf := g_o2 hf; obtain ⟨h1, hf⟩ := hf; subst h1
    replace hf := g_o2 hf; obtain ⟨h1, hf⟩ := hf; subst h1
    replace hf := g_o2 hf; obtain ⟨h1, hf⟩ := hf; subst h1
    replace hf := g_o2 hf; obtain ⟨h1, hf⟩ := hf; subst h1
    replace hf := g_o2 hf; obtain ⟨h1, hf⟩ := hf; subst h1
    replace hf := g_o2 hf; obtain ⟨h1, hf⟩ := hf; subst h1
    replace hf := g_o2 hf; obtain ⟨h1, hf⟩ := hf; subst h1
    replace hf := Option.some.inj hf; subst hf
    exact g_iret C d_Mo_cost_31 () rfl
  · replace hf := g_bt h hf
    refine g_iload_n (pc' := 11) C 2 d_Mo_cost_10 rfl rfl ?_
    refine g_iconst (pc' := 12) (v := 0) C d_Mo_cost_11 rfl rfl ?_
    refine g_bipush (pc' := 14) (v := 9) C d_Mo_cost_12 rfl rfl ?_
    replace hf := g_bi hf; obtain ⟨r3, hc4, hf⟩ := hf
    refine g_callS (pc' := 17) (st1 := [.int (b2i r3)]) (ws1 := [O_Mo a_o x_o_code x_o_lamps x_o_at x_o_night x_o_spent x_o_rest x_o_shy a_o_had a_o_told a_o_barred a_o_cost a_o_last a_o_often x_o_hasBegun x_o_doneMany x_o_undoneMany a_o_changeOf a_o_changeAt a_o_before a_o_behind a_o_tape x_o_taped x_o_here x_o_fault x_o_open x_o_laid a_o_act a_o_with a_o_lineMany a_o_testEnd a_o_lineEnd a_o_facts a_o_pile x_o_hasLaw a_o_way a_o_bestWay x_o_bestMany a_o_wasHad a_o_wasLast x_o_wasAt x_o_wasNight x_o_hasImage x_o_keptLamps x_o_keptAt x_o_keptNight x_o_keptSpent a_o_keptHad a_o_keptTold a_o_keptLast a_o_keptOften x_o_bodies a_o_kind x_o_traces a_o_traced a_o_holds a_o_size a_o_elements a_o_shifted, A_I dA a_o_cost 10 x_o_cost, A_I dA a_o_changeOf 40 x_o_changeOf, A_I dA a_o_changeAt 40 x_o_changeAt, A_I dA a_o_before 40 x_o_before, A_I dA a_o_behind 40 x_o_behind]) C (c_Mo_in (l := l) (D := D) (dA := dA)    hc4) yy_Mo_in mw_5_80 d_Mo_cost_14 rfl [] rfl rfl (Nat.le_of_ble_eq_true rfl) ⟨Nat.le_of_ble_eq_true rfl, Nat.le_of_ble_eq_true rfl⟩ rfl rfl (Nat.zero_le _) (Nat.zero_le _) [] rfl (by decide +kernel) rfl (g_lay_sel _ _ _ _ [(0, false), (1, false), (2, false), (3, false), (4, false), (5, false)] (by decide +kernel) rfl (by decide +kernel) rfl rfl) rfl ?_
    refine g_if_eqb (pc' := 20) (tgt := 30) C d_Mo_cost_17 rfl rfl (fun h => ?_) (fun h => ?_)
    · replace hf := g_bf h hf
      refine g_iconst (pc' := 31) (v := (-1)) C d_Mo_cost_30 rfl rfl ?_
      replace hf := g_o2 hf; obtain ⟨h1, hf⟩ := hf; subst h1
      replace hf := g_o2 hf; obtain ⟨h1, hf⟩ := hf; subst h1
      replace hf := g_o2 hf; obtain ⟨h1, hf⟩ := hf; subst h1
      replace hf := g_o2 hf; obtain ⟨h1, hf⟩ := hf; subst h1
      replace hf := g_o2 hf; obtain ⟨h1, hf⟩ := hf; subst h1
      replace hf := g_o2 hf; obtain ⟨h1, hf⟩ := hf; subst h1
      replace hf := g_o2 hf; obtain ⟨h1, hf⟩ := hf; subst h1
      replace hf := Option.some.inj hf; subst hf
      exact g_iret C d_Mo_cost_31 () rfl
    · replace hf := g_bt h hf
      refine g_aload_n (pc' := 21) C 0 d_Mo_cost_20 rfl rfl ?_
      refine g_iconst (pc' := 22) (v := 0) C d_Mo_cost_21 rfl rfl ?_
      refine g_iload_n (pc' := 23) C 1 d_Mo_cost_22 rfl rfl ?_
      refine g_iload_n (pc' := 24) C 2 d_Mo_cost_23 rfl rfl ?_
      replace hf := g_bi hf; obtain ⟨⟨r5, u6, u7, u8, u9, u10, u11, u12⟩, hc13, hf⟩ := hf
      dsimp only at hf
      refine g_callV (pc' := 27) (st1 := [.int r5]) (ws1 := [O_Mo a_o x_o_code x_o_lamps x_o_at x_o_night x_o_spent x_o_rest x_o_shy a_o_had a_o_told a_o_barred a_o_cost a_o_last a_o_often x_o_hasBegun u6 u7 a_o_changeOf a_o_changeAt a_o_before a_o_behind a_o_tape x_o_taped x_o_here x_o_fault x_o_open x_o_laid a_o_act a_o_with a_o_lineMany a_o_testEnd a_o_lineEnd a_o_facts a_o_pile x_o_hasLaw a_o_way a_o_bestWay x_o_bestMany a_o_wasHad a_o_wasLast x_o_wasAt x_o_wasNight x_o_hasImage x_o_keptLamps x_o_keptAt x_o_keptNight x_o_keptSpent a_o_keptHad a_o_keptTold a_o_keptLast a_o_keptOften x_o_bodies a_o_kind x_o_traces a_o_traced a_o_holds a_o_size a_o_elements a_o_shifted, A_I dA a_o_cost 10 u8, A_I dA a_o_changeOf 40 u9, A_I dA a_o_changeAt 40 u10, A_I dA a_o_before 40 u11, A_I dA a_o_behind 40 u12]) C (c_Mo_changes (l := l) (D := D) (dA := dA) (a_o := a_o) (a_o_had := a_o_had) (a_o_told := a_o_told) (a_o_barred := a_o_barred) (a_o_cost := a_o_cost) (a_o_last := a_o_last) (a_o_often := a_o_often) (a_o_changeOf := a_o_changeOf) (a_o_changeAt := a_o_changeAt) (a_o_before := a_o_before) (a_o_behind := a_o_behind) (a_o_tape := a_o_tape) (a_o_act := a_o_act) (a_o_with := a_o_with) (a_o_lineMany := a_o_lineMany) (a_o_testEnd := a_o_testEnd) (a_o_lineEnd := a_o_lineEnd) (a_o_facts := a_o_facts) (a_o_pile := a_o_pile) (a_o_way := a_o_way) (a_o_bestWay := a_o_bestWay) (a_o_wasHad := a_o_wasHad) (a_o_wasLast := a_o_wasLast) (a_o_keptHad := a_o_keptHad) (a_o_keptTold := a_o_keptTold) (a_o_keptLast := a_o_keptLast) (a_o_keptOften := a_o_keptOften) (a_o_kind := a_o_kind) (a_o_traced := a_o_traced) (a_o_holds := a_o_holds) (a_o_size := a_o_size) (a_o_elements := a_o_elements) (a_o_shifted := a_o_shifted) (x_o_code := x_o_code) (x_o_lamps := x_o_lamps) (x_o_at := x_o_at) (x_o_night := x_o_night) (x_o_spent := x_o_spent) (x_o_rest := x_o_rest) (x_o_shy := x_o_shy) (x_o_hasBegun := x_o_hasBegun) (x_o_taped := x_o_taped) (x_o_here := x_o_here) (x_o_fault := x_o_fault) (x_o_open := x_o_open) (x_o_laid := x_o_laid) (x_o_hasLaw := x_o_hasLaw) (x_o_bestMany := x_o_bestMany) (x_o_wasAt := x_o_wasAt) (x_o_wasNight := x_o_wasNight) (x_o_hasImage := x_o_hasImage) (x_o_keptLamps := x_o_keptLamps) (x_o_keptAt := x_o_keptAt) (x_o_keptNight := x_o_keptNight) (x_o_keptSpent := x_o_keptSpent) (x_o_bodies := x_o_bodies) (x_o_traces := x_o_traces)   hc13) yy_Mo_changes kf_Mo rfl mw_5_130 d_Mo_cost_24 rfl [] rfl rfl (Nat.le_of_ble_eq_true rfl) ⟨Nat.le_of_ble_eq_true rfl, Nat.le_of_ble_eq_true rfl⟩ rfl rfl (Nat.zero_le _) (Nat.zero_le _) 0 rfl [0, 1, 2, 3, 4, 5] rfl (by decide +kernel) rfl (g_lay_sel _ _ _ _ [(0, true), (1, true), (2, true), (3, true), (4, true), (5, true)] (by decide +kernel) rfl (by decide +kernel) rfl rfl) rfl ?_
      refine g_goto (tgt := 31) C d_Mo_cost_27 rfl ?_
      replace hf := g_o2 hf; obtain ⟨h1, hf⟩ := hf; subst h1
      replace hf := g_o2 hf; obtain ⟨h1, hf⟩ := hf; subst h1
      replace hf := g_o2 hf; obtain ⟨h1, hf⟩ := hf; subst h1
      replace hf := g_o2 hf; obtain ⟨h1, hf⟩ := hf; subst h1
      replace hf := g_o2 hf; obtain ⟨h1, hf⟩ := hf; subst h1
      replace hf := g_o2 hf; obtain ⟨h1, hf⟩ := hf; subst h1
      replace hf := g_o2 hf; obtain ⟨h1, hf⟩ := hf; subst h1
      replace hf := Option.some.inj hf; subst hf
      exact g_iret C d_Mo_cost_31 () rfl
def y_Mo_hadMany : MethodName := ⟨"OneLampModel", "hadMany", "()I"⟩
theorem yy_Mo_hadMany : YV y_Mo_hadMany prog_13_method_21_code 3 (some .int) 0 := ⟨mw_5_149, mw_1_12, mw_5_148, tm_s (y := y_Mo_hadMany) (n := 58) (by decide +kernel), by decide +kernel, by decide +kernel, by decide +kernel⟩
theorem d_Mo_hadMany_0 : decode prog_13_method_21_code 0 = .ok (.iconst 0, 1) := by decide +kernel
theorem d_Mo_hadMany_1 : decode prog_13_method_21_code 1 = .ok (.istore_n 1, 1) := by decide +kernel
theorem d_Mo_hadMany_2 : decode prog_13_method_21_code 2 = .ok (.iconst 0, 1) := by decide +kernel
theorem d_Mo_hadMany_3 : decode prog_13_method_21_code 3 = .ok (.istore_n 2, 1) := by decide +kernel
theorem d_Mo_hadMany_4 : decode prog_13_method_21_code 4 = .ok (.iload_n 2, 1) := by decide +kernel
theorem d_Mo_hadMany_5 : decode prog_13_method_21_code 5 = .ok (.aload_n 0, 1) := by decide +kernel
theorem d_Mo_hadMany_6 : decode prog_13_method_21_code 6 = .ok (.invokevirtual 117, 3) := by decide +kernel
theorem d_Mo_hadMany_9 : decode prog_13_method_21_code 9 = .ok (.if_icmp .ge 21, 3) := by decide +kernel
theorem d_Mo_hadMany_12 : decode prog_13_method_21_code 12 = .ok (.aload_n 0, 1) := by decide +kernel
theorem d_Mo_hadMany_13 : decode prog_13_method_21_code 13 = .ok (.getfield 13, 3) := by decide +kernel
theorem d_Mo_hadMany_16 : decode prog_13_method_21_code 16 = .ok (.iload_n 2, 1) := by decide +kernel
theorem d_Mo_hadMany_17 : decode prog_13_method_21_code 17 = .ok (.baload, 1) := by decide +kernel
theorem d_Mo_hadMany_18 : decode prog_13_method_21_code 18 = .ok (.ifCond .eq 6, 3) := by decide +kernel
theorem d_Mo_hadMany_21 : decode prog_13_method_21_code 21 = .ok (.iinc 1 1, 3) := by decide +kernel
theorem d_Mo_hadMany_24 : decode prog_13_method_21_code 24 = .ok (.iinc 2 1, 3) := by decide +kernel
theorem d_Mo_hadMany_27 : decode prog_13_method_21_code 27 = .ok (.goto (-23), 3) := by decide +kernel
theorem d_Mo_hadMany_30 : decode prog_13_method_21_code 30 = .ok (.iload_n 1, 1) := by decide +kernel
theorem d_Mo_hadMany_31 : decode prog_13_method_21_code 31 = .ok (.ireturn, 1) := by decide +kernel
def f_Mo_hadMany_L24  (k4 : Int32 → Int32 → Int32 → (Nat → Int32) → Option (Int32)) (v1 : Int32) (v2 : Int32) (x_o_lamps : Int32) (x_o_had : Nat → Int32) : Option (Int32) :=
  k4 v1 (v2 + 1) x_o_lamps x_o_had
set_option maxRecDepth 20000 in
theorem w_Mo_hadMany_L24 {p : Program} {l : Launch} {e : Env} {s : State} {m : MethodId} {args : Array Value} {below : List Frame} {meth : Method} {c : Code} {D : va_G} {dA : Nat → ClassId} {A : Nat → Prop} (C : GC p s m args meth c prog_13_method_21_code 3 "OneLampModel" (some .int) D dA A) {a_o a_o_had a_o_told a_o_barred a_o_cost a_o_last a_o_often a_o_changeOf a_o_changeAt a_o_before a_o_behind a_o_tape a_o_act a_o_with a_o_lineMany a_o_testEnd a_o_lineEnd a_o_facts a_o_pile a_o_way a_o_bestWay a_o_wasHad a_o_wasLast a_o_keptHad a_o_keptTold a_o_keptLast a_o_keptOften a_o_kind a_o_traced a_o_holds a_o_size a_o_elements a_o_shifted : Nat} {x_o_code : Int32} {x_o_at : Int32} {x_o_night : Int32} {x_o_spent : Int32} {x_o_rest : Int32} {x_o_shy : Int32} {x_o_hasBegun : Bool} {x_o_doneMany : Int32} {x_o_undoneMany : Int32} {x_o_taped : Int32} {x_o_here : Int32} {x_o_fault : Int32} {x_o_open : Int32} {x_o_laid : Int32} {x_o_hasLaw : Bool} {x_o_bestMany : Int32} {x_o_wasAt : Int32} {x_o_wasNight : Int32} {x_o_hasImage : Bool} {x_o_keptLamps : Int32} {x_o_keptAt : Int32} {x_o_keptNight : Int32} {x_o_keptSpent : Int32} {x_o_bodies : Int32} {x_o_traces : Int32} {r0 : Int32}   (k4 : Int32 → Int32 → Int32 → (Nat → Int32) → Option (Int32)) (hk4 : ∀ (v1 : Int32) (v2 : Int32) (x_o_lamps : Int32) (x_o_had : Nat → Int32), k4 v1 v2 x_o_lamps x_o_had = some r0 → GG p l e { frames := 1, cells := 0, slots := 0, locals := 20 } s m args below meth c 3 D A 0 0 (MQ below (cQ D A (some (.int r0)) (fun _ : Unit => [O_Mo a_o x_o_code x_o_lamps x_o_at x_o_night x_o_spent x_o_rest x_o_shy a_o_had a_o_told a_o_barred a_o_cost a_o_last a_o_often x_o_hasBegun x_o_doneMany x_o_undoneMany a_o_changeOf a_o_changeAt a_o_before a_o_behind a_o_tape x_o_taped x_o_here x_o_fault x_o_open x_o_laid a_o_act a_o_with a_o_lineMany a_o_testEnd a_o_lineEnd a_o_facts a_o_pile x_o_hasLaw a_o_way a_o_bestWay x_o_bestMany a_o_wasHad a_o_wasLast x_o_wasAt x_o_wasNight x_o_hasImage x_o_keptLamps x_o_keptAt x_o_keptNight x_o_keptSpent a_o_keptHad a_o_keptTold a_o_keptLast a_o_keptOften x_o_bodies a_o_kind x_o_traces a_o_traced a_o_holds a_o_size a_o_elements a_o_shifted, A_Z dA a_o_had 1024 x_o_had])) args s 0 0 A) 4 [(0, .ref a_o), (1, .int v1), (2, .int v2)] [] [O_Mo a_o x_o_code x_o_lamps x_o_at x_o_night x_o_spent x_o_rest x_o_shy a_o_had a_o_told a_o_barred a_o_cost a_o_last a_o_often x_o_hasBegun x_o_doneMany x_o_undoneMany a_o_changeOf a_o_changeAt a_o_before a_o_behind a_o_tape x_o_taped x_o_here x_o_fault x_o_open x_o_laid a_o_act a_o_with a_o_lineMany a_o_testEnd a_o_lineEnd a_o_facts a_o_pile x_o_hasLaw a_o_way a_o_bestWay x_o_bestMany a_o_wasHad a_o_wasLast x_o_wasAt x_o_wasNight x_o_hasImage x_o_keptLamps x_o_keptAt x_o_keptNight x_o_keptSpent a_o_keptHad a_o_keptTold a_o_keptLast a_o_keptOften x_o_bodies a_o_kind x_o_traces a_o_traced a_o_holds a_o_size a_o_elements a_o_shifted, A_Z dA a_o_had 1024 x_o_had]) (v1 : Int32) (v2 : Int32) (x_o_lamps : Int32) (x_o_had : Nat → Int32) (hf : f_Mo_hadMany_L24  k4 v1 v2 x_o_lamps x_o_had = some r0) : GG p l e { frames := 1, cells := 0, slots := 0, locals := 20 } s m args below meth c 3 D A 0 0 (MQ below (cQ D A (some (.int r0)) (fun _ : Unit => [O_Mo a_o x_o_code x_o_lamps x_o_at x_o_night x_o_spent x_o_rest x_o_shy a_o_had a_o_told a_o_barred a_o_cost a_o_last a_o_often x_o_hasBegun x_o_doneMany x_o_undoneMany a_o_changeOf a_o_changeAt a_o_before a_o_behind a_o_tape x_o_taped x_o_here x_o_fault x_o_open x_o_laid a_o_act a_o_with a_o_lineMany a_o_testEnd a_o_lineEnd a_o_facts a_o_pile x_o_hasLaw a_o_way a_o_bestWay x_o_bestMany a_o_wasHad a_o_wasLast x_o_wasAt x_o_wasNight x_o_hasImage x_o_keptLamps x_o_keptAt x_o_keptNight x_o_keptSpent a_o_keptHad a_o_keptTold a_o_keptLast a_o_keptOften x_o_bodies a_o_kind x_o_traces a_o_traced a_o_holds a_o_size a_o_elements a_o_shifted, A_Z dA a_o_had 1024 x_o_had])) args s 0 0 A) 24 [(0, .ref a_o), (1, .int v1), (2, .int v2)] [] [O_Mo a_o x_o_code x_o_lamps x_o_at x_o_night x_o_spent x_o_rest x_o_shy a_o_had a_o_told a_o_barred a_o_cost a_o_last a_o_often x_o_hasBegun x_o_doneMany x_o_undoneMany a_o_changeOf a_o_changeAt a_o_before a_o_behind a_o_tape x_o_taped x_o_here x_o_fault x_o_open x_o_laid a_o_act a_o_with a_o_lineMany a_o_testEnd a_o_lineEnd a_o_facts a_o_pile x_o_hasLaw a_o_way a_o_bestWay x_o_bestMany a_o_wasHad a_o_wasLast x_o_wasAt x_o_wasNight x_o_hasImage x_o_keptLamps x_o_keptAt x_o_keptNight x_o_keptSpent a_o_keptHad a_o_keptTold a_o_keptLast a_o_keptOften x_o_bodies a_o_kind x_o_traces a_o_traced a_o_holds a_o_size a_o_elements a_o_shifted, A_Z dA a_o_had 1024 x_o_had] := by
  unfold f_Mo_hadMany_L24 at hf
  refine g_iinc (pc' := 27) (j := 2) (v := (v2 + 1)) (lv' := [(2, .int (v2 + 1)), (0, .ref a_o), (1, .int v1)]) C d_Mo_hadMany_24 rfl rfl rfl (by decide) rfl ?_
  refine g_goto (tgt := 4) C d_Mo_hadMany_27 rfl ?_
  refine g_lv (lv' := [(0, .ref a_o), (1, .int v1), (2, .int (v2 + 1))]) [1, 2, 0] rfl ?_
  exact hk4 v1 (v2 + 1) x_o_lamps x_o_had hf
def f_Mo_hadMany_L4   : Nat → Int32 → Int32 → Int32 → (Nat → Int32) → Option (Int32)
  | 0, _, _, _, _ => none
  | n + 1, v1, v2, x_o_lamps, x_o_had =>
    (f_Mo_pictures  x_o_lamps).bind fun r1 =>
    if r1 ≤ v2 then
      (some (v1))
    else
      (if v2 < 0 ∨ 1024 ≤ Int32.toNatClampNeg v2 then none else
      if (x_o_had (Int32.toNatClampNeg v2)) = 0 then
        (f_Mo_hadMany_L24 (f_Mo_hadMany_L4  n) v1 v2 x_o_lamps x_o_had)
      else
        (f_Mo_hadMany_L24 (f_Mo_hadMany_L4  n) (v1 + 1) v2 x_o_lamps x_o_had))
set_option maxRecDepth 20000 in
theorem w_Mo_hadMany_L4 {p : Program} {l : Launch} {e : Env} {s : State} {m : MethodId} {args : Array Value} {below : List Frame} {meth : Method} {c : Code} {D : va_G} {dA : Nat → ClassId} {A : Nat → Prop} (C : GC p s m args meth c prog_13_method_21_code 3 "OneLampModel" (some .int) D dA A) {a_o a_o_had a_o_told a_o_barred a_o_cost a_o_last a_o_often a_o_changeOf a_o_changeAt a_o_before a_o_behind a_o_tape a_o_act a_o_with a_o_lineMany a_o_testEnd a_o_lineEnd a_o_facts a_o_pile a_o_way a_o_bestWay a_o_wasHad a_o_wasLast a_o_keptHad a_o_keptTold a_o_keptLast a_o_keptOften a_o_kind a_o_traced a_o_holds a_o_size a_o_elements a_o_shifted : Nat} {x_o_code : Int32} {x_o_at : Int32} {x_o_night : Int32} {x_o_spent : Int32} {x_o_rest : Int32} {x_o_shy : Int32} {x_o_hasBegun : Bool} {x_o_doneMany : Int32} {x_o_undoneMany : Int32} {x_o_taped : Int32} {x_o_here : Int32} {x_o_fault : Int32} {x_o_open : Int32} {x_o_laid : Int32} {x_o_hasLaw : Bool} {x_o_bestMany : Int32} {x_o_wasAt : Int32} {x_o_wasNight : Int32} {x_o_hasImage : Bool} {x_o_keptLamps : Int32} {x_o_keptAt : Int32} {x_o_keptNight : Int32} {x_o_keptSpent : Int32} {x_o_bodies : Int32} {x_o_traces : Int32} {r0 : Int32}    : ∀ (n : Nat) (v1 : Int32) (v2 : Int32) (x_o_lamps : Int32) (x_o_had : Nat → Int32), f_Mo_hadMany_L4   n v1 v2 x_o_lamps x_o_had = some r0 → GG p l e { frames := 1, cells := 0, slots := 0, locals := 20 } s m args below meth c 3 D A 0 0 (MQ below (cQ D A (some (.int r0)) (fun _ : Unit => [O_Mo a_o x_o_code x_o_lamps x_o_at x_o_night x_o_spent x_o_rest x_o_shy a_o_had a_o_told a_o_barred a_o_cost a_o_last a_o_often x_o_hasBegun x_o_doneMany x_o_undoneMany a_o_changeOf a_o_changeAt a_o_before a_o_behind a_o_tape x_o_taped x_o_here x_o_fault x_o_open x_o_laid a_o_act a_o_with a_o_lineMany a_o_testEnd a_o_lineEnd a_o_facts a_o_pile x_o_hasLaw a_o_way a_o_bestWay x_o_bestMany a_o_wasHad a_o_wasLast x_o_wasAt x_o_wasNight x_o_hasImage x_o_keptLamps x_o_keptAt x_o_keptNight x_o_keptSpent a_o_keptHad a_o_keptTold a_o_keptLast a_o_keptOften x_o_bodies a_o_kind x_o_traces a_o_traced a_o_holds a_o_size a_o_elements a_o_shifted, A_Z dA a_o_had 1024 x_o_had])) args s 0 0 A) 4 [(0, .ref a_o), (1, .int v1), (2, .int v2)] [] [O_Mo a_o x_o_code x_o_lamps x_o_at x_o_night x_o_spent x_o_rest x_o_shy a_o_had a_o_told a_o_barred a_o_cost a_o_last a_o_often x_o_hasBegun x_o_doneMany x_o_undoneMany a_o_changeOf a_o_changeAt a_o_before a_o_behind a_o_tape x_o_taped x_o_here x_o_fault x_o_open x_o_laid a_o_act a_o_with a_o_lineMany a_o_testEnd a_o_lineEnd a_o_facts a_o_pile x_o_hasLaw a_o_way a_o_bestWay x_o_bestMany a_o_wasHad a_o_wasLast x_o_wasAt x_o_wasNight x_o_hasImage x_o_keptLamps x_o_keptAt x_o_keptNight x_o_keptSpent a_o_keptHad a_o_keptTold a_o_keptLast a_o_keptOften x_o_bodies a_o_kind x_o_traces a_o_traced a_o_holds a_o_size a_o_elements a_o_shifted, A_Z dA a_o_had 1024 x_o_had] := by
  intro n
  induction n with
  | zero =>
    intro v1 v2 x_o_lamps x_o_had hf
    cases hf
  | succ n ih =>
    intro v1 v2 x_o_lamps x_o_had hf
    unfold f_Mo_hadMany_L4 at hf
    refine g_iload_n (pc' := 5) C 2 d_Mo_hadMany_4 rfl rfl ?_
    refine g_aload_n (pc' := 6) C 0 d_Mo_hadMany_5 rfl rfl ?_
    replace hf := g_bi hf; obtain ⟨r1, hc2, hf⟩ := hf
    refine g_callV (pc' := 9) (st1 := [.int r1, .int v2]) (ws1 := [O_Mo a_o x_o_code x_o_lamps x_o_at x_o_night x_o_spent x_o_rest x_o_shy a_o_had a_o_told a_o_barred a_o_cost a_o_last a_o_often x_o_hasBegun x_o_doneMany x_o_undoneMany a_o_changeOf a_o_changeAt a_o_before a_o_behind a_o_tape x_o_taped x_o_here x_o_fault x_o_open x_o_laid a_o_act a_o_with a_o_lineMany a_o_testEnd a_o_lineEnd a_o_facts a_o_pile x_o_hasLaw a_o_way a_o_bestWay x_o_bestMany a_o_wasHad a_o_wasLast x_o_wasAt x_o_wasNight x_o_hasImage x_o_keptLamps x_o_keptAt x_o_keptNight x_o_keptSpent a_o_keptHad a_o_keptTold a_o_keptLast a_o_keptOften x_o_bodies a_o_kind x_o_traces a_o_traced a_o_holds a_o_size a_o_elements a_o_shifted, A_Z dA a_o_had 1024 x_o_had]) C (c_Mo_pictures (l := l) (D := D) (dA := dA) (a_o := a_o) (a_o_had := a_o_had) (a_o_told := a_o_told) (a_o_barred := a_o_barred) (a_o_cost := a_o_cost) (a_o_last := a_o_last) (a_o_often := a_o_often) (a_o_changeOf := a_o_changeOf) (a_o_changeAt := a_o_changeAt) (a_o_before := a_o_before) (a_o_behind := a_o_behind) (a_o_tape := a_o_tape) (a_o_act := a_o_act) (a_o_with := a_o_with) (a_o_lineMany := a_o_lineMany) (a_o_testEnd := a_o_testEnd) (a_o_lineEnd := a_o_lineEnd) (a_o_facts := a_o_facts) (a_o_pile := a_o_pile) (a_o_way := a_o_way) (a_o_bestWay := a_o_bestWay) (a_o_wasHad := a_o_wasHad) (a_o_wasLast := a_o_wasLast) (a_o_keptHad := a_o_keptHad) (a_o_keptTold := a_o_keptTold) (a_o_keptLast := a_o_keptLast) (a_o_keptOften := a_o_keptOften) (a_o_kind := a_o_kind) (a_o_traced := a_o_traced) (a_o_holds := a_o_holds) (a_o_size := a_o_size) (a_o_elements := a_o_elements) (a_o_shifted := a_o_shifted) (x_o_code := x_o_code) (x_o_at := x_o_at) (x_o_night := x_o_night) (x_o_spent := x_o_spent) (x_o_rest := x_o_rest) (x_o_shy := x_o_shy) (x_o_hasBegun := x_o_hasBegun) (x_o_doneMany := x_o_doneMany) (x_o_undoneMany := x_o_undoneMany) (x_o_taped := x_o_taped) (x_o_here := x_o_here) (x_o_fault := x_o_fault) (x_o_open := x_o_open) (x_o_laid := x_o_laid) (x_o_hasLaw := x_o_hasLaw) (x_o_bestMany := x_o_bestMany) (x_o_wasAt := x_o_wasAt) (x_o_wasNight := x_o_wasNight) (x_o_hasImage := x_o_hasImage) (x_o_keptLamps := x_o_keptLamps) (x_o_keptAt := x_o_keptAt) (x_o_keptNight := x_o_keptNight) (x_o_keptSpent := x_o_keptSpent) (x_o_bodies := x_o_bodies) (x_o_traces := x_o_traces)   hc2) yy_Mo_pictures kf_Mo rfl mw_5_95 d_Mo_hadMany_6 rfl [.int v2] rfl rfl (Nat.le_of_ble_eq_true rfl) ⟨Nat.le_of_ble_eq_true rfl, Nat.le_of_ble_eq_true rfl⟩ rfl rfl (Nat.zero_le _) (Nat.zero_le _) 0 rfl [0] rfl (by decide +kernel) rfl (g_lay_sel _ _ _ _ [(0, true), (1, false)] (by decide +kernel) rfl (by decide +kernel) rfl rfl) rfl ?_
    refine g_icmp_ge (pc' := 12) (tgt := 30) C d_Mo_hadMany_9 rfl rfl (fun h => ?_) (fun h => ?_)
    · replace hf := g_ip h hf
      refine g_iload_n (pc' := 31) C 1 d_Mo_hadMany_30 rfl rfl ?_
      replace hf := Option.some.inj hf; subst hf
      exact g_iret C d_Mo_hadMany_31 () rfl
    · replace hf := g_in h hf
      refine g_aload_n (pc' := 13) C 0 d_Mo_hadMany_12 rfl rfl ?_
      refine g_get (pc' := 16) C kf_Mo 7 mw_4_145 d_Mo_hadMany_13 rfl 0 rfl (by decide) rfl ?_
      refine g_iload_n (pc' := 17) C 2 d_Mo_hadMany_16 rfl rfl ?_
      have hb := g_ck hf
      replace hf := g_in hb hf
      refine g_zald (pc' := 18) C d_Mo_hadMany_17 rfl 1 rfl hb ?_
      refine g_if_eq (pc' := 21) (tgt := 24) C d_Mo_hadMany_18 rfl rfl (fun h => ?_) (fun h => ?_)
      · replace hf := g_ip h hf
        exact w_Mo_hadMany_L24 (a_o := a_o) (a_o_had := a_o_had) (a_o_told := a_o_told) (a_o_barred := a_o_barred) (a_o_cost := a_o_cost) (a_o_last := a_o_last) (a_o_often := a_o_often) (a_o_changeOf := a_o_changeOf) (a_o_changeAt := a_o_changeAt) (a_o_before := a_o_before) (a_o_behind := a_o_behind) (a_o_tape := a_o_tape) (a_o_act := a_o_act) (a_o_with := a_o_with) (a_o_lineMany := a_o_lineMany) (a_o_testEnd := a_o_testEnd) (a_o_lineEnd := a_o_lineEnd) (a_o_facts := a_o_facts) (a_o_pile := a_o_pile) (a_o_way := a_o_way) (a_o_bestWay := a_o_bestWay) (a_o_wasHad := a_o_wasHad) (a_o_wasLast := a_o_wasLast) (a_o_keptHad := a_o_keptHad) (a_o_keptTold := a_o_keptTold) (a_o_keptLast := a_o_keptLast) (a_o_keptOften := a_o_keptOften) (a_o_kind := a_o_kind) (a_o_traced := a_o_traced) (a_o_holds := a_o_holds) (a_o_size := a_o_size) (a_o_elements := a_o_elements) (a_o_shifted := a_o_shifted) C  (f_Mo_hadMany_L4  n) ih v1 v2 x_o_lamps x_o_had hf
      · replace hf := g_in h hf
        refine g_iinc (pc' := 24) (j := 1) (v := (v1 + 1)) (lv' := [(1, .int (v1 + 1)), (0, .ref a_o), (2, .int v2)]) C d_Mo_hadMany_21 rfl rfl rfl (by decide) rfl ?_
        refine g_lv (lv' := [(0, .ref a_o), (1, .int (v1 + 1)), (2, .int v2)]) [1, 0, 2] rfl ?_
        exact w_Mo_hadMany_L24 (a_o := a_o) (a_o_had := a_o_had) (a_o_told := a_o_told) (a_o_barred := a_o_barred) (a_o_cost := a_o_cost) (a_o_last := a_o_last) (a_o_often := a_o_often) (a_o_changeOf := a_o_changeOf) (a_o_changeAt := a_o_changeAt) (a_o_before := a_o_before) (a_o_behind := a_o_behind) (a_o_tape := a_o_tape) (a_o_act := a_o_act) (a_o_with := a_o_with) (a_o_lineMany := a_o_lineMany) (a_o_testEnd := a_o_testEnd) (a_o_lineEnd := a_o_lineEnd) (a_o_facts := a_o_facts) (a_o_pile := a_o_pile) (a_o_way := a_o_way) (a_o_bestWay := a_o_bestWay) (a_o_wasHad := a_o_wasHad) (a_o_wasLast := a_o_wasLast) (a_o_keptHad := a_o_keptHad) (a_o_keptTold := a_o_keptTold) (a_o_keptLast := a_o_keptLast) (a_o_keptOften := a_o_keptOften) (a_o_kind := a_o_kind) (a_o_traced := a_o_traced) (a_o_holds := a_o_holds) (a_o_size := a_o_size) (a_o_elements := a_o_elements) (a_o_shifted := a_o_shifted) C  (f_Mo_hadMany_L4  n) ih (v1 + 1) v2 x_o_lamps x_o_had hf
def f_Mo_hadMany  (x_o_lamps : Int32) (x_o_had : Nat → Int32) : Option (Int32) :=
  f_Mo_hadMany_L4  3000 (0 : Int32) (0 : Int32) x_o_lamps x_o_had
set_option maxRecDepth 20000 in
theorem c_Mo_hadMany {l : Launch} {D : va_G} {dA : Nat → ClassId} {a_o a_o_had a_o_told a_o_barred a_o_cost a_o_last a_o_often a_o_changeOf a_o_changeAt a_o_before a_o_behind a_o_tape a_o_act a_o_with a_o_lineMany a_o_testEnd a_o_lineEnd a_o_facts a_o_pile a_o_way a_o_bestWay a_o_wasHad a_o_wasLast a_o_keptHad a_o_keptTold a_o_keptLast a_o_keptOften a_o_kind a_o_traced a_o_holds a_o_size a_o_elements a_o_shifted : Nat} {x_o_code : Int32} {x_o_at : Int32} {x_o_night : Int32} {x_o_spent : Int32} {x_o_rest : Int32} {x_o_shy : Int32} {x_o_hasBegun : Bool} {x_o_doneMany : Int32} {x_o_undoneMany : Int32} {x_o_taped : Int32} {x_o_here : Int32} {x_o_fault : Int32} {x_o_open : Int32} {x_o_laid : Int32} {x_o_hasLaw : Bool} {x_o_bestMany : Int32} {x_o_wasAt : Int32} {x_o_wasNight : Int32} {x_o_hasImage : Bool} {x_o_keptLamps : Int32} {x_o_keptAt : Int32} {x_o_keptNight : Int32} {x_o_keptSpent : Int32} {x_o_bodies : Int32} {x_o_traces : Int32} {x_o_lamps : Int32} {x_o_had : Nat → Int32} {r0 : Int32}   (hf : f_Mo_hadMany  x_o_lamps x_o_had = some r0) : CT l y_Mo_hadMany prog_13_method_21_code 3 (some .int) { frames := 1, cells := 0, slots := 0, locals := 20 } D dA [.ref a_o] [O_Mo a_o x_o_code x_o_lamps x_o_at x_o_night x_o_spent x_o_rest x_o_shy a_o_had a_o_told a_o_barred a_o_cost a_o_last a_o_often x_o_hasBegun x_o_doneMany x_o_undoneMany a_o_changeOf a_o_changeAt a_o_before a_o_behind a_o_tape x_o_taped x_o_here x_o_fault x_o_open x_o_laid a_o_act a_o_with a_o_lineMany a_o_testEnd a_o_lineEnd a_o_facts a_o_pile x_o_hasLaw a_o_way a_o_bestWay x_o_bestMany a_o_wasHad a_o_wasLast x_o_wasAt x_o_wasNight x_o_hasImage x_o_keptLamps x_o_keptAt x_o_keptNight x_o_keptSpent a_o_keptHad a_o_keptTold a_o_keptLast a_o_keptOften x_o_bodies a_o_kind x_o_traces a_o_traced a_o_holds a_o_size a_o_elements a_o_shifted, A_Z dA a_o_had 1024 x_o_had] (some (.int r0)) (fun _ : Unit => [O_Mo a_o x_o_code x_o_lamps x_o_at x_o_night x_o_spent x_o_rest x_o_shy a_o_had a_o_told a_o_barred a_o_cost a_o_last a_o_often x_o_hasBegun x_o_doneMany x_o_undoneMany a_o_changeOf a_o_changeAt a_o_before a_o_behind a_o_tape x_o_taped x_o_here x_o_fault x_o_open x_o_laid a_o_act a_o_with a_o_lineMany a_o_testEnd a_o_lineEnd a_o_facts a_o_pile x_o_hasLaw a_o_way a_o_bestWay x_o_bestMany a_o_wasHad a_o_wasLast x_o_wasAt x_o_wasNight x_o_hasImage x_o_keptLamps x_o_keptAt x_o_keptNight x_o_keptSpent a_o_keptHad a_o_keptTold a_o_keptLast a_o_keptOften x_o_bodies a_o_kind x_o_traces a_o_traced a_o_holds a_o_size a_o_elements a_o_shifted, A_Z dA a_o_had 1024 x_o_had]) := by
  refine ct_intro "OneLampModel" rfl (by decide +kernel) (Nat.le_of_ble_eq_true rfl) [(0, .ref a_o)] rfl (fun _ C => ?_)
  unfold f_Mo_hadMany at hf
  refine g_iconst (pc' := 1) (v := 0) C d_Mo_hadMany_0 rfl rfl ?_
  refine g_istore_n (pc' := 2) (lv' := [(1, .int 0), (0, .ref a_o)]) C d_Mo_hadMany_1 rfl (by decide) rfl ?_
  refine g_iconst (pc' := 3) (v := 0) C d_Mo_hadMany_2 rfl rfl ?_
  refine g_istore_n (pc' := 4) (lv' := [(2, .int 0), (1, .int 0), (0, .ref a_o)]) C d_Mo_hadMany_3 rfl (by decide) rfl ?_
  refine g_lv (lv' := [(0, .ref a_o), (1, .int (0 : Int32)), (2, .int (0 : Int32))]) [2, 1, 0] rfl ?_
  exact w_Mo_hadMany_L4 (a_o := a_o) (a_o_had := a_o_had) (a_o_told := a_o_told) (a_o_barred := a_o_barred) (a_o_cost := a_o_cost) (a_o_last := a_o_last) (a_o_often := a_o_often) (a_o_changeOf := a_o_changeOf) (a_o_changeAt := a_o_changeAt) (a_o_before := a_o_before) (a_o_behind := a_o_behind) (a_o_tape := a_o_tape) (a_o_act := a_o_act) (a_o_with := a_o_with) (a_o_lineMany := a_o_lineMany) (a_o_testEnd := a_o_testEnd) (a_o_lineEnd := a_o_lineEnd) (a_o_facts := a_o_facts) (a_o_pile := a_o_pile) (a_o_way := a_o_way) (a_o_bestWay := a_o_bestWay) (a_o_wasHad := a_o_wasHad) (a_o_wasLast := a_o_wasLast) (a_o_keptHad := a_o_keptHad) (a_o_keptTold := a_o_keptTold) (a_o_keptLast := a_o_keptLast) (a_o_keptOften := a_o_keptOften) (a_o_kind := a_o_kind) (a_o_traced := a_o_traced) (a_o_holds := a_o_holds) (a_o_size := a_o_size) (a_o_elements := a_o_elements) (a_o_shifted := a_o_shifted) C   3000 (0 : Int32) (0 : Int32) x_o_lamps x_o_had hf
def y_Mo_least : MethodName := ⟨"OneLampModel", "least", "()I"⟩
theorem yy_Mo_least : YV y_Mo_least prog_13_method_22_code 5 (some .int) 0 := ⟨mw_5_153, mw_1_12, mw_5_152, tm_s (y := y_Mo_least) (n := 58) (by decide +kernel), by decide +kernel, by decide +kernel, by decide +kernel⟩
theorem d_Mo_least_0 : decode prog_13_method_22_code 0 = .ok (.iconst 0, 1) := by decide +kernel
theorem d_Mo_least_1 : decode prog_13_method_22_code 1 = .ok (.istore_n 1, 1) := by decide +kernel
theorem d_Mo_least_2 : decode prog_13_method_22_code 2 = .ok (.iconst 1, 1) := by decide +kernel
theorem d_Mo_least_3 : decode prog_13_method_22_code 3 = .ok (.aload_n 0, 1) := by decide +kernel
theorem d_Mo_least_4 : decode prog_13_method_22_code 4 = .ok (.getfield 7, 3) := by decide +kernel
theorem d_Mo_least_7 : decode prog_13_method_22_code 7 = .ok (.iconst 1, 1) := by decide +kernel
theorem d_Mo_least_8 : decode prog_13_method_22_code 8 = .ok (.isub, 1) := by decide +kernel
theorem d_Mo_least_9 : decode prog_13_method_22_code 9 = .ok (.ishl, 1) := by decide +kernel
theorem d_Mo_least_10 : decode prog_13_method_22_code 10 = .ok (.istore_n 2, 1) := by decide +kernel
theorem d_Mo_least_11 : decode prog_13_method_22_code 11 = .ok (.iconst 0, 1) := by decide +kernel
theorem d_Mo_least_12 : decode prog_13_method_22_code 12 = .ok (.istore_n 3, 1) := by decide +kernel
theorem d_Mo_least_13 : decode prog_13_method_22_code 13 = .ok (.iload_n 3, 1) := by decide +kernel
theorem d_Mo_least_14 : decode prog_13_method_22_code 14 = .ok (.bipush 9, 2) := by decide +kernel
theorem d_Mo_least_16 : decode prog_13_method_22_code 16 = .ok (.if_icmp .gt 51, 3) := by decide +kernel
theorem d_Mo_least_19 : decode prog_13_method_22_code 19 = .ok (.iconst 0, 1) := by decide +kernel
theorem d_Mo_least_20 : decode prog_13_method_22_code 20 = .ok (.istore 4, 2) := by decide +kernel
theorem d_Mo_least_22 : decode prog_13_method_22_code 22 = .ok (.iload 4, 2) := by decide +kernel
theorem d_Mo_least_24 : decode prog_13_method_22_code 24 = .ok (.aload_n 0, 1) := by decide +kernel
theorem d_Mo_least_25 : decode prog_13_method_22_code 25 = .ok (.getfield 7, 3) := by decide +kernel
theorem d_Mo_least_28 : decode prog_13_method_22_code 28 = .ok (.if_icmp .ge 33, 3) := by decide +kernel
theorem d_Mo_least_31 : decode prog_13_method_22_code 31 = .ok (.aload_n 0, 1) := by decide +kernel
theorem d_Mo_least_32 : decode prog_13_method_22_code 32 = .ok (.getfield 23, 3) := by decide +kernel
theorem d_Mo_least_35 : decode prog_13_method_22_code 35 = .ok (.iload 4, 2) := by decide +kernel
theorem d_Mo_least_37 : decode prog_13_method_22_code 37 = .ok (.iaload, 1) := by decide +kernel
theorem d_Mo_least_38 : decode prog_13_method_22_code 38 = .ok (.iload_n 3, 1) := by decide +kernel
theorem d_Mo_least_39 : decode prog_13_method_22_code 39 = .ok (.if_icmp .eq 6, 3) := by decide +kernel
theorem d_Mo_least_42 : decode prog_13_method_22_code 42 = .ok (.goto 13, 3) := by decide +kernel
theorem d_Mo_least_45 : decode prog_13_method_22_code 45 = .ok (.iload_n 1, 1) := by decide +kernel
theorem d_Mo_least_46 : decode prog_13_method_22_code 46 = .ok (.iload_n 3, 1) := by decide +kernel
theorem d_Mo_least_47 : decode prog_13_method_22_code 47 = .ok (.iload_n 2, 1) := by decide +kernel
theorem d_Mo_least_48 : decode prog_13_method_22_code 48 = .ok (.imul, 1) := by decide +kernel
theorem d_Mo_least_49 : decode prog_13_method_22_code 49 = .ok (.iadd, 1) := by decide +kernel
theorem d_Mo_least_50 : decode prog_13_method_22_code 50 = .ok (.istore_n 1, 1) := by decide +kernel
theorem d_Mo_least_51 : decode prog_13_method_22_code 51 = .ok (.iload_n 2, 1) := by decide +kernel
theorem d_Mo_least_52 : decode prog_13_method_22_code 52 = .ok (.iconst 2, 1) := by decide +kernel
theorem d_Mo_least_53 : decode prog_13_method_22_code 53 = .ok (.idiv, 1) := by decide +kernel
theorem d_Mo_least_54 : decode prog_13_method_22_code 54 = .ok (.istore_n 2, 1) := by decide +kernel
theorem d_Mo_least_55 : decode prog_13_method_22_code 55 = .ok (.iinc 4 1, 3) := by decide +kernel
theorem d_Mo_least_58 : decode prog_13_method_22_code 58 = .ok (.goto (-36), 3) := by decide +kernel
theorem d_Mo_least_61 : decode prog_13_method_22_code 61 = .ok (.iinc 3 1, 3) := by decide +kernel
theorem d_Mo_least_64 : decode prog_13_method_22_code 64 = .ok (.goto (-51), 3) := by decide +kernel
theorem d_Mo_least_67 : decode prog_13_method_22_code 67 = .ok (.iload_n 1, 1) := by decide +kernel
theorem d_Mo_least_68 : decode prog_13_method_22_code 68 = .ok (.ireturn, 1) := by decide +kernel
def f_Mo_least_L55  (k13 : Int32 → Int32 → Int32 → Int32 → (Nat → Int32) → Option (Int32)) (k22 : Int32 → Int32 → Int32 → Int32 → Int32 → (Nat → Int32) → Option (Int32)) (v1 : Int32) (v2 : Int32) (v3 : Int32) (v4 : Int32) (x_o_lamps : Int32) (x_o_cost : Nat → Int32) : Option (Int32) :=
  k22 v1 v2 v3 (v4 + 1) x_o_lamps x_o_cost
set_option maxRecDepth 20000 in
theorem w_Mo_least_L55 {p : Program} {l : Launch} {e : Env} {s : State} {m : MethodId} {args : Array Value} {below : List Frame} {meth : Method} {c : Code} {D : va_G} {dA : Nat → ClassId} {A : Nat → Prop} (C : GC p s m args meth c prog_13_method_22_code 5 "OneLampModel" (some .int) D dA A) {a_o a_o_had a_o_told a_o_barred a_o_cost a_o_last a_o_often a_o_changeOf a_o_changeAt a_o_before a_o_behind a_o_tape a_o_act a_o_with a_o_lineMany a_o_testEnd a_o_lineEnd a_o_facts a_o_pile a_o_way a_o_bestWay a_o_wasHad a_o_wasLast a_o_keptHad a_o_keptTold a_o_keptLast a_o_keptOften a_o_kind a_o_traced a_o_holds a_o_size a_o_elements a_o_shifted : Nat} {x_o_code : Int32} {x_o_at : Int32} {x_o_night : Int32} {x_o_spent : Int32} {x_o_rest : Int32} {x_o_shy : Int32} {x_o_hasBegun : Bool} {x_o_doneMany : Int32} {x_o_undoneMany : Int32} {x_o_taped : Int32} {x_o_here : Int32} {x_o_fault : Int32} {x_o_open : Int32} {x_o_laid : Int32} {x_o_hasLaw : Bool} {x_o_bestMany : Int32} {x_o_wasAt : Int32} {x_o_wasNight : Int32} {x_o_hasImage : Bool} {x_o_keptLamps : Int32} {x_o_keptAt : Int32} {x_o_keptNight : Int32} {x_o_keptSpent : Int32} {x_o_bodies : Int32} {x_o_traces : Int32} {r0 : Int32}   (k13 : Int32 → Int32 → Int32 → Int32 → (Nat → Int32) → Option (Int32)) (hk13 : ∀ (v1 : Int32) (v2 : Int32) (v3 : Int32) (x_o_lamps : Int32) (x_o_cost : Nat → Int32), k13 v1 v2 v3 x_o_lamps x_o_cost = some r0 → GG p l e { frames := 0, cells := 0, slots := 0, locals := 0 } s m args below meth c 5 D A 0 0 (MQ below (cQ D A (some (.int r0)) (fun _ : Unit => [O_Mo a_o x_o_code x_o_lamps x_o_at x_o_night x_o_spent x_o_rest x_o_shy a_o_had a_o_told a_o_barred a_o_cost a_o_last a_o_often x_o_hasBegun x_o_doneMany x_o_undoneMany a_o_changeOf a_o_changeAt a_o_before a_o_behind a_o_tape x_o_taped x_o_here x_o_fault x_o_open x_o_laid a_o_act a_o_with a_o_lineMany a_o_testEnd a_o_lineEnd a_o_facts a_o_pile x_o_hasLaw a_o_way a_o_bestWay x_o_bestMany a_o_wasHad a_o_wasLast x_o_wasAt x_o_wasNight x_o_hasImage x_o_keptLamps x_o_keptAt x_o_keptNight x_o_keptSpent a_o_keptHad a_o_keptTold a_o_keptLast a_o_keptOften x_o_bodies a_o_kind x_o_traces a_o_traced a_o_holds a_o_size a_o_elements a_o_shifted, A_I dA a_o_cost 10 x_o_cost])) args s 0 0 A) 13 [(0, .ref a_o), (1, .int v1), (2, .int v2), (3, .int v3)] [] [O_Mo a_o x_o_code x_o_lamps x_o_at x_o_night x_o_spent x_o_rest x_o_shy a_o_had a_o_told a_o_barred a_o_cost a_o_last a_o_often x_o_hasBegun x_o_doneMany x_o_undoneMany a_o_changeOf a_o_changeAt a_o_before a_o_behind a_o_tape x_o_taped x_o_here x_o_fault x_o_open x_o_laid a_o_act a_o_with a_o_lineMany a_o_testEnd a_o_lineEnd a_o_facts a_o_pile x_o_hasLaw a_o_way a_o_bestWay x_o_bestMany a_o_wasHad a_o_wasLast x_o_wasAt x_o_wasNight x_o_hasImage x_o_keptLamps x_o_keptAt x_o_keptNight x_o_keptSpent a_o_keptHad a_o_keptTold a_o_keptLast a_o_keptOften x_o_bodies a_o_kind x_o_traces a_o_traced a_o_holds a_o_size a_o_elements a_o_shifted, A_I dA a_o_cost 10 x_o_cost]) (k22 : Int32 → Int32 → Int32 → Int32 → Int32 → (Nat → Int32) → Option (Int32)) (hk22 : ∀ (v1 : Int32) (v2 : Int32) (v3 : Int32) (v4 : Int32) (x_o_lamps : Int32) (x_o_cost : Nat → Int32), k22 v1 v2 v3 v4 x_o_lamps x_o_cost = some r0 → GG p l e { frames := 0, cells := 0, slots := 0, locals := 0 } s m args below meth c 5 D A 0 0 (MQ below (cQ D A (some (.int r0)) (fun _ : Unit => [O_Mo a_o x_o_code x_o_lamps x_o_at x_o_night x_o_spent x_o_rest x_o_shy a_o_had a_o_told a_o_barred a_o_cost a_o_last a_o_often x_o_hasBegun x_o_doneMany x_o_undoneMany a_o_changeOf a_o_changeAt a_o_before a_o_behind a_o_tape x_o_taped x_o_here x_o_fault x_o_open x_o_laid a_o_act a_o_with a_o_lineMany a_o_testEnd a_o_lineEnd a_o_facts a_o_pile x_o_hasLaw a_o_way a_o_bestWay x_o_bestMany a_o_wasHad a_o_wasLast x_o_wasAt x_o_wasNight x_o_hasImage x_o_keptLamps x_o_keptAt x_o_keptNight x_o_keptSpent a_o_keptHad a_o_keptTold a_o_keptLast a_o_keptOften x_o_bodies a_o_kind x_o_traces a_o_traced a_o_holds a_o_size a_o_elements a_o_shifted, A_I dA a_o_cost 10 x_o_cost])) args s 0 0 A) 22 [(0, .ref a_o), (1, .int v1), (2, .int v2), (3, .int v3), (4, .int v4)] [] [O_Mo a_o x_o_code x_o_lamps x_o_at x_o_night x_o_spent x_o_rest x_o_shy a_o_had a_o_told a_o_barred a_o_cost a_o_last a_o_often x_o_hasBegun x_o_doneMany x_o_undoneMany a_o_changeOf a_o_changeAt a_o_before a_o_behind a_o_tape x_o_taped x_o_here x_o_fault x_o_open x_o_laid a_o_act a_o_with a_o_lineMany a_o_testEnd a_o_lineEnd a_o_facts a_o_pile x_o_hasLaw a_o_way a_o_bestWay x_o_bestMany a_o_wasHad a_o_wasLast x_o_wasAt x_o_wasNight x_o_hasImage x_o_keptLamps x_o_keptAt x_o_keptNight x_o_keptSpent a_o_keptHad a_o_keptTold a_o_keptLast a_o_keptOften x_o_bodies a_o_kind x_o_traces a_o_traced a_o_holds a_o_size a_o_elements a_o_shifted, A_I dA a_o_cost 10 x_o_cost]) (v1 : Int32) (v2 : Int32) (v3 : Int32) (v4 : Int32) (x_o_lamps : Int32) (x_o_cost : Nat → Int32) (hf : f_Mo_least_L55  k13 k22 v1 v2 v3 v4 x_o_lamps x_o_cost = some r0) : GG p l e { frames := 0, cells := 0, slots := 0, locals := 0 } s m args below meth c 5 D A 0 0 (MQ below (cQ D A (some (.int r0)) (fun _ : Unit => [O_Mo a_o x_o_code x_o_lamps x_o_at x_o_night x_o_spent x_o_rest x_o_shy a_o_had a_o_told a_o_barred a_o_cost a_o_last a_o_often x_o_hasBegun x_o_doneMany x_o_undoneMany a_o_changeOf a_o_changeAt a_o_before a_o_behind a_o_tape x_o_taped x_o_here x_o_fault x_o_open x_o_laid a_o_act a_o_with a_o_lineMany a_o_testEnd a_o_lineEnd a_o_facts a_o_pile x_o_hasLaw a_o_way a_o_bestWay x_o_bestMany a_o_wasHad a_o_wasLast x_o_wasAt x_o_wasNight x_o_hasImage x_o_keptLamps x_o_keptAt x_o_keptNight x_o_keptSpent a_o_keptHad a_o_keptTold a_o_keptLast a_o_keptOften x_o_bodies a_o_kind x_o_traces a_o_traced a_o_holds a_o_size a_o_elements a_o_shifted, A_I dA a_o_cost 10 x_o_cost])) args s 0 0 A) 55 [(0, .ref a_o), (1, .int v1), (2, .int v2), (3, .int v3), (4, .int v4)] [] [O_Mo a_o x_o_code x_o_lamps x_o_at x_o_night x_o_spent x_o_rest x_o_shy a_o_had a_o_told a_o_barred a_o_cost a_o_last a_o_often x_o_hasBegun x_o_doneMany x_o_undoneMany a_o_changeOf a_o_changeAt a_o_before a_o_behind a_o_tape x_o_taped x_o_here x_o_fault x_o_open x_o_laid a_o_act a_o_with a_o_lineMany a_o_testEnd a_o_lineEnd a_o_facts a_o_pile x_o_hasLaw a_o_way a_o_bestWay x_o_bestMany a_o_wasHad a_o_wasLast x_o_wasAt x_o_wasNight x_o_hasImage x_o_keptLamps x_o_keptAt x_o_keptNight x_o_keptSpent a_o_keptHad a_o_keptTold a_o_keptLast a_o_keptOften x_o_bodies a_o_kind x_o_traces a_o_traced a_o_holds a_o_size a_o_elements a_o_shifted, A_I dA a_o_cost 10 x_o_cost] := by
  unfold f_Mo_least_L55 at hf
  refine g_iinc (pc' := 58) (j := 4) (v := (v4 + 1)) (lv' := [(4, .int (v4 + 1)), (0, .ref a_o), (1, .int v1), (2, .int v2), (3, .int v3)]) C d_Mo_least_55 rfl rfl rfl (by decide) rfl ?_
  refine g_goto (tgt := 22) C d_Mo_least_58 rfl ?_
  refine g_lv (lv' := [(0, .ref a_o), (1, .int v1), (2, .int v2), (3, .int v3), (4, .int (v4 + 1))]) [1, 2, 3, 4, 0] rfl ?_
  exact hk22 v1 v2 v3 (v4 + 1) x_o_lamps x_o_cost hf
def f_Mo_least_L22  (k13 : Int32 → Int32 → Int32 → Int32 → (Nat → Int32) → Option (Int32)) : Nat → Int32 → Int32 → Int32 → Int32 → Int32 → (Nat → Int32) → Option (Int32)
  | 0, _, _, _, _, _, _ => none
  | n + 1, v1, v2, v3, v4, x_o_lamps, x_o_cost =>
    if x_o_lamps ≤ v4 then
      (k13 v1 v2 (v3 + 1) x_o_lamps x_o_cost)
    else
      (if v4 < 0 ∨ 10 ≤ Int32.toNatClampNeg v4 then none else
      if (x_o_cost (Int32.toNatClampNeg v4)) = v3 then
        (f_Mo_least_L55 k13 (f_Mo_least_L22 k13 n) (v1 + (v3 * v2)) (v2 / (2 : Int32)) v3 v4 x_o_lamps x_o_cost)
      else
        (f_Mo_least_L55 k13 (f_Mo_least_L22 k13 n) v1 v2 v3 v4 x_o_lamps x_o_cost))
set_option maxRecDepth 20000 in
theorem w_Mo_least_L22 {p : Program} {l : Launch} {e : Env} {s : State} {m : MethodId} {args : Array Value} {below : List Frame} {meth : Method} {c : Code} {D : va_G} {dA : Nat → ClassId} {A : Nat → Prop} (C : GC p s m args meth c prog_13_method_22_code 5 "OneLampModel" (some .int) D dA A) {a_o a_o_had a_o_told a_o_barred a_o_cost a_o_last a_o_often a_o_changeOf a_o_changeAt a_o_before a_o_behind a_o_tape a_o_act a_o_with a_o_lineMany a_o_testEnd a_o_lineEnd a_o_facts a_o_pile a_o_way a_o_bestWay a_o_wasHad a_o_wasLast a_o_keptHad a_o_keptTold a_o_keptLast a_o_keptOften a_o_kind a_o_traced a_o_holds a_o_size a_o_elements a_o_shifted : Nat} {x_o_code : Int32} {x_o_at : Int32} {x_o_night : Int32} {x_o_spent : Int32} {x_o_rest : Int32} {x_o_shy : Int32} {x_o_hasBegun : Bool} {x_o_doneMany : Int32} {x_o_undoneMany : Int32} {x_o_taped : Int32} {x_o_here : Int32} {x_o_fault : Int32} {x_o_open : Int32} {x_o_laid : Int32} {x_o_hasLaw : Bool} {x_o_bestMany : Int32} {x_o_wasAt : Int32} {x_o_wasNight : Int32} {x_o_hasImage : Bool} {x_o_keptLamps : Int32} {x_o_keptAt : Int32} {x_o_keptNight : Int32} {x_o_keptSpent : Int32} {x_o_bodies : Int32} {x_o_traces : Int32} {r0 : Int32}   (k13 : Int32 → Int32 → Int32 → Int32 → (Nat → Int32) → Option (Int32)) (hk13 : ∀ (v1 : Int32) (v2 : Int32) (v3 : Int32) (x_o_lamps : Int32) (x_o_cost : Nat → Int32), k13 v1 v2 v3 x_o_lamps x_o_cost = some r0 → GG p l e { frames := 0, cells := 0, slots := 0, locals := 0 } s m args below meth c 5 D A 0 0 (MQ below (cQ D A (some (.int r0)) (fun _ : Unit => [O_Mo a_o x_o_code x_o_lamps x_o_at x_o_night x_o_spent x_o_rest x_o_shy a_o_had a_o_told a_o_barred a_o_cost a_o_last a_o_often x_o_hasBegun x_o_doneMany x_o_undoneMany a_o_changeOf a_o_changeAt a_o_before a_o_behind a_o_tape x_o_taped x_o_here x_o_fault x_o_open x_o_laid a_o_act a_o_with a_o_lineMany a_o_testEnd a_o_lineEnd a_o_facts a_o_pile x_o_hasLaw a_o_way a_o_bestWay x_o_bestMany a_o_wasHad a_o_wasLast x_o_wasAt x_o_wasNight x_o_hasImage x_o_keptLamps x_o_keptAt x_o_keptNight x_o_keptSpent a_o_keptHad a_o_keptTold a_o_keptLast a_o_keptOften x_o_bodies a_o_kind x_o_traces a_o_traced a_o_holds a_o_size a_o_elements a_o_shifted, A_I dA a_o_cost 10 x_o_cost])) args s 0 0 A) 13 [(0, .ref a_o), (1, .int v1), (2, .int v2), (3, .int v3)] [] [O_Mo a_o x_o_code x_o_lamps x_o_at x_o_night x_o_spent x_o_rest x_o_shy a_o_had a_o_told a_o_barred a_o_cost a_o_last a_o_often x_o_hasBegun x_o_doneMany x_o_undoneMany a_o_changeOf a_o_changeAt a_o_before a_o_behind a_o_tape x_o_taped x_o_here x_o_fault x_o_open x_o_laid a_o_act a_o_with a_o_lineMany a_o_testEnd a_o_lineEnd a_o_facts a_o_pile x_o_hasLaw a_o_way a_o_bestWay x_o_bestMany a_o_wasHad a_o_wasLast x_o_wasAt x_o_wasNight x_o_hasImage x_o_keptLamps x_o_keptAt x_o_keptNight x_o_keptSpent a_o_keptHad a_o_keptTold a_o_keptLast a_o_keptOften x_o_bodies a_o_kind x_o_traces a_o_traced a_o_holds a_o_size a_o_elements a_o_shifted, A_I dA a_o_cost 10 x_o_cost]) : ∀ (n : Nat) (v1 : Int32) (v2 : Int32) (v3 : Int32) (v4 : Int32) (x_o_lamps : Int32) (x_o_cost : Nat → Int32), f_Mo_least_L22  k13 n v1 v2 v3 v4 x_o_lamps x_o_cost = some r0 → GG p l e { frames := 0, cells := 0, slots := 0, locals := 0 } s m args below meth c 5 D A 0 0 (MQ below (cQ D A (some (.int r0)) (fun _ : Unit => [O_Mo a_o x_o_code x_o_lamps x_o_at x_o_night x_o_spent x_o_rest x_o_shy a_o_had a_o_told a_o_barred a_o_cost a_o_last a_o_often x_o_hasBegun x_o_doneMany x_o_undoneMany a_o_changeOf a_o_changeAt a_o_before a_o_behind a_o_tape x_o_taped x_o_here x_o_fault x_o_open x_o_laid a_o_act a_o_with a_o_lineMany a_o_testEnd a_o_lineEnd a_o_facts a_o_pile x_o_hasLaw a_o_way a_o_bestWay x_o_bestMany a_o_wasHad a_o_wasLast x_o_wasAt x_o_wasNight x_o_hasImage x_o_keptLamps x_o_keptAt x_o_keptNight x_o_keptSpent a_o_keptHad a_o_keptTold a_o_keptLast a_o_keptOften x_o_bodies a_o_kind x_o_traces a_o_traced a_o_holds a_o_size a_o_elements a_o_shifted, A_I dA a_o_cost 10 x_o_cost])) args s 0 0 A) 22 [(0, .ref a_o), (1, .int v1), (2, .int v2), (3, .int v3), (4, .int v4)] [] [O_Mo a_o x_o_code x_o_lamps x_o_at x_o_night x_o_spent x_o_rest x_o_shy a_o_had a_o_told a_o_barred a_o_cost a_o_last a_o_often x_o_hasBegun x_o_doneMany x_o_undoneMany a_o_changeOf a_o_changeAt a_o_before a_o_behind a_o_tape x_o_taped x_o_here x_o_fault x_o_open x_o_laid a_o_act a_o_with a_o_lineMany a_o_testEnd a_o_lineEnd a_o_facts a_o_pile x_o_hasLaw a_o_way a_o_bestWay x_o_bestMany a_o_wasHad a_o_wasLast x_o_wasAt x_o_wasNight x_o_hasImage x_o_keptLamps x_o_keptAt x_o_keptNight x_o_keptSpent a_o_keptHad a_o_keptTold a_o_keptLast a_o_keptOften x_o_bodies a_o_kind x_o_traces a_o_traced a_o_holds a_o_size a_o_elements a_o_shifted, A_I dA a_o_cost 10 x_o_cost] := by
  intro n
  induction n with
  | zero =>
    intro v1 v2 v3 v4 x_o_lamps x_o_cost hf
    cases hf
  | succ n ih =>
    intro v1 v2 v3 v4 x_o_lamps x_o_cost hf
    unfold f_Mo_least_L22 at hf
    refine g_iload (pc' := 24) C 4 d_Mo_least_22 rfl rfl ?_
    refine g_aload_n (pc' := 25) C 0 d_Mo_least_24 rfl rfl ?_
    refine g_get (pc' := 28) C kf_Mo 1 mw_4_139 d_Mo_least_25 rfl 0 rfl (by decide) rfl ?_
    refine g_icmp_ge (pc' := 31) (tgt := 61) C d_Mo_least_28 rfl rfl (fun h => ?_) (fun h => ?_)
    · replace hf := g_ip h hf
      refine g_iinc (pc' := 64) (j := 3) (v := (v3 + 1)) (lv' := [(3, .int (v3 + 1)), (0, .ref a_o), (1, .int v1), (2, .int v2), (4, .int v4)]) C d_Mo_least_61 rfl rfl rfl (by decide) rfl ?_
      refine g_goto (tgt := 13) C d_Mo_least_64 rfl ?_
      refine g_lv (lv' := [(0, .ref a_o), (1, .int v1), (2, .int v2), (3, .int (v3 + 1))]) [1, 2, 3, 0] rfl ?_
      exact hk13 v1 v2 (v3 + 1) x_o_lamps x_o_cost hf
    · replace hf := g_in h hf
      refine g_aload_n (pc' := 32) C 0 d_Mo_least_31 rfl rfl ?_
      refine g_get (pc' := 35) C kf_Mo 10 mw_4_148 d_Mo_least_32 rfl 0 rfl (by decide) rfl ?_
      refine g_iload (pc' := 37) C 4 d_Mo_least_35 rfl rfl ?_
      have hb := g_ck hf
      replace hf := g_in hb hf
      refine g_iald (pc' := 38) C d_Mo_least_37 rfl 1 rfl hb ?_
      refine g_iload_n (pc' := 39) C 3 d_Mo_least_38 rfl rfl ?_
      refine g_icmp_eq (pc' := 42) (tgt := 45) C d_Mo_least_39 rfl rfl (fun h => ?_) (fun h => ?_)
      · replace hf := g_ip h hf
        refine g_iload_n (pc' := 46) C 1 d_Mo_least_45 rfl rfl ?_
        refine g_iload_n (pc' := 47) C 3 d_Mo_least_46 rfl rfl ?_
        refine g_iload_n (pc' := 48) C 2 d_Mo_least_47 rfl rfl ?_
        refine g_imul (pc' := 49) C d_Mo_least_48 rfl ?_
        refine g_iadd (pc' := 50) C d_Mo_least_49 rfl ?_
        refine g_istore_n (pc' := 51) (lv' := [(1, .int (v1 + (v3 * v2))), (0, .ref a_o), (2, .int v2), (3, .int v3), (4, .int v4)]) C d_Mo_least_50 rfl (by decide) rfl ?_
        refine g_iload_n (pc' := 52) C 2 d_Mo_least_51 rfl rfl ?_
        refine g_iconst (pc' := 53) (v := 2) C d_Mo_least_52 rfl rfl ?_
        refine g_idiv (pc' := 54) C d_Mo_least_53 rfl (by decide) ?_
        refine g_istore_n (pc' := 55) (lv' := [(2, .int (v2 / (2 : Int32))), (1, .int (v1 + (v3 * v2))), (0, .ref a_o), (3, .int v3), (4, .int v4)]) C d_Mo_least_54 rfl (by decide) rfl ?_
        refine g_lv (lv' := [(0, .ref a_o), (1, .int (v1 + (v3 * v2))), (2, .int (v2 / (2 : Int32))), (3, .int v3), (4, .int v4)]) [2, 1, 0, 3, 4] rfl ?_
        exact w_Mo_least_L55 (a_o := a_o) (a_o_had := a_o_had) (a_o_told := a_o_told) (a_o_barred := a_o_barred) (a_o_cost := a_o_cost) (a_o_last := a_o_last) (a_o_often := a_o_often) (a_o_changeOf := a_o_changeOf) (a_o_changeAt := a_o_changeAt) (a_o_before := a_o_before) (a_o_behind := a_o_behind) (a_o_tape := a_o_tape) (a_o_act := a_o_act) (a_o_with := a_o_with) (a_o_lineMany := a_o_lineMany) (a_o_testEnd := a_o_testEnd) (a_o_lineEnd := a_o_lineEnd) (a_o_facts := a_o_facts) (a_o_pile := a_o_pile) (a_o_way := a_o_way) (a_o_bestWay := a_o_bestWay) (a_o_wasHad := a_o_wasHad) (a_o_wasLast := a_o_wasLast) (a_o_keptHad := a_o_keptHad) (a_o_keptTold := a_o_keptTold) (a_o_keptLast := a_o_keptLast) (a_o_keptOften := a_o_keptOften) (a_o_kind := a_o_kind) (a_o_traced := a_o_traced) (a_o_holds := a_o_holds) (a_o_size := a_o_size) (a_o_elements := a_o_elements) (a_o_shifted := a_o_shifted) C  k13 hk13 (f_Mo_least_L22 k13 n) ih (v1 + (v3 * v2)) (v2 / (2 : Int32)) v3 v4 x_o_lamps x_o_cost hf
      · replace hf := g_in h hf
        refine g_goto (tgt := 55) C d_Mo_least_42 rfl ?_
        exact w_Mo_least_L55 (a_o := a_o) (a_o_had := a_o_had) (a_o_told := a_o_told) (a_o_barred := a_o_barred) (a_o_cost := a_o_cost) (a_o_last := a_o_last) (a_o_often := a_o_often) (a_o_changeOf := a_o_changeOf) (a_o_changeAt := a_o_changeAt) (a_o_before := a_o_before) (a_o_behind := a_o_behind) (a_o_tape := a_o_tape) (a_o_act := a_o_act) (a_o_with := a_o_with) (a_o_lineMany := a_o_lineMany) (a_o_testEnd := a_o_testEnd) (a_o_lineEnd := a_o_lineEnd) (a_o_facts := a_o_facts) (a_o_pile := a_o_pile) (a_o_way := a_o_way) (a_o_bestWay := a_o_bestWay) (a_o_wasHad := a_o_wasHad) (a_o_wasLast := a_o_wasLast) (a_o_keptHad := a_o_keptHad) (a_o_keptTold := a_o_keptTold) (a_o_keptLast := a_o_keptLast) (a_o_keptOften := a_o_keptOften) (a_o_kind := a_o_kind) (a_o_traced := a_o_traced) (a_o_holds := a_o_holds) (a_o_size := a_o_size) (a_o_elements := a_o_elements) (a_o_shifted := a_o_shifted) C  k13 hk13 (f_Mo_least_L22 k13 n) ih v1 v2 v3 v4 x_o_lamps x_o_cost hf
def f_Mo_least_L13   : Nat → Int32 → Int32 → Int32 → Int32 → (Nat → Int32) → Option (Int32)
  | 0, _, _, _, _, _ => none
  | n + 1, v1, v2, v3, x_o_lamps, x_o_cost =>
    if (9 : Int32) < v3 then
      (some (v1))
    else
      (f_Mo_least_L22 (f_Mo_least_L13  n) 3000 v1 v2 v3 (0 : Int32) x_o_lamps x_o_cost)
set_option maxRecDepth 20000 in
theorem w_Mo_least_L13 {p : Program} {l : Launch} {e : Env} {s : State} {m : MethodId} {args : Array Value} {below : List Frame} {meth : Method} {c : Code} {D : va_G} {dA : Nat → ClassId} {A : Nat → Prop} (C : GC p s m args meth c prog_13_method_22_code 5 "OneLampModel" (some .int) D dA A) {a_o a_o_had a_o_told a_o_barred a_o_cost a_o_last a_o_often a_o_changeOf a_o_changeAt a_o_before a_o_behind a_o_tape a_o_act a_o_with a_o_lineMany a_o_testEnd a_o_lineEnd a_o_facts a_o_pile a_o_way a_o_bestWay a_o_wasHad a_o_wasLast a_o_keptHad a_o_keptTold a_o_keptLast a_o_keptOften a_o_kind a_o_traced a_o_holds a_o_size a_o_elements a_o_shifted : Nat} {x_o_code : Int32} {x_o_at : Int32} {x_o_night : Int32} {x_o_spent : Int32} {x_o_rest : Int32} {x_o_shy : Int32} {x_o_hasBegun : Bool} {x_o_doneMany : Int32} {x_o_undoneMany : Int32} {x_o_taped : Int32} {x_o_here : Int32} {x_o_fault : Int32} {x_o_open : Int32} {x_o_laid : Int32} {x_o_hasLaw : Bool} {x_o_bestMany : Int32} {x_o_wasAt : Int32} {x_o_wasNight : Int32} {x_o_hasImage : Bool} {x_o_keptLamps : Int32} {x_o_keptAt : Int32} {x_o_keptNight : Int32} {x_o_keptSpent : Int32} {x_o_bodies : Int32} {x_o_traces : Int32} {r0 : Int32}    : ∀ (n : Nat) (v1 : Int32) (v2 : Int32) (v3 : Int32) (x_o_lamps : Int32) (x_o_cost : Nat → Int32), f_Mo_least_L13   n v1 v2 v3 x_o_lamps x_o_cost = some r0 → GG p l e { frames := 0, cells := 0, slots := 0, locals := 0 } s m args below meth c 5 D A 0 0 (MQ below (cQ D A (some (.int r0)) (fun _ : Unit => [O_Mo a_o x_o_code x_o_lamps x_o_at x_o_night x_o_spent x_o_rest x_o_shy a_o_had a_o_told a_o_barred a_o_cost a_o_last a_o_often x_o_hasBegun x_o_doneMany x_o_undoneMany a_o_changeOf a_o_changeAt a_o_before a_o_behind a_o_tape x_o_taped x_o_here x_o_fault x_o_open x_o_laid a_o_act a_o_with a_o_lineMany a_o_testEnd a_o_lineEnd a_o_facts a_o_pile x_o_hasLaw a_o_way a_o_bestWay x_o_bestMany a_o_wasHad a_o_wasLast x_o_wasAt x_o_wasNight x_o_hasImage x_o_keptLamps x_o_keptAt x_o_keptNight x_o_keptSpent a_o_keptHad a_o_keptTold a_o_keptLast a_o_keptOften x_o_bodies a_o_kind x_o_traces a_o_traced a_o_holds a_o_size a_o_elements a_o_shifted, A_I dA a_o_cost 10 x_o_cost])) args s 0 0 A) 13 [(0, .ref a_o), (1, .int v1), (2, .int v2), (3, .int v3)] [] [O_Mo a_o x_o_code x_o_lamps x_o_at x_o_night x_o_spent x_o_rest x_o_shy a_o_had a_o_told a_o_barred a_o_cost a_o_last a_o_often x_o_hasBegun x_o_doneMany x_o_undoneMany a_o_changeOf a_o_changeAt a_o_before a_o_behind a_o_tape x_o_taped x_o_here x_o_fault x_o_open x_o_laid a_o_act a_o_with a_o_lineMany a_o_testEnd a_o_lineEnd a_o_facts a_o_pile x_o_hasLaw a_o_way a_o_bestWay x_o_bestMany a_o_wasHad a_o_wasLast x_o_wasAt x_o_wasNight x_o_hasImage x_o_keptLamps x_o_keptAt x_o_keptNight x_o_keptSpent a_o_keptHad a_o_keptTold a_o_keptLast a_o_keptOften x_o_bodies a_o_kind x_o_traces a_o_traced a_o_holds a_o_size a_o_elements a_o_shifted, A_I dA a_o_cost 10 x_o_cost] := by
  intro n
  induction n with
  | zero =>
    intro v1 v2 v3 x_o_lamps x_o_cost hf
    cases hf
  | succ n ih =>
    intro v1 v2 v3 x_o_lamps x_o_cost hf
    unfold f_Mo_least_L13 at hf
    refine g_iload_n (pc' := 14) C 3 d_Mo_least_13 rfl rfl ?_
    refine g_bipush (pc' := 16) (v := 9) C d_Mo_least_14 rfl rfl ?_
    refine g_icmp_gt (pc' := 19) (tgt := 67) C d_Mo_least_16 rfl rfl (fun h => ?_) (fun h => ?_)
    · replace hf := g_ip h hf
      refine g_iload_n (pc' := 68) C 1 d_Mo_least_67 rfl rfl ?_
      replace hf := Option.some.inj hf; subst hf
      exact g_iret C d_Mo_least_68 () rfl
    · replace hf := g_in h hf
      refine g_iconst (pc' := 20) (v := 0) C d_Mo_least_19 rfl rfl ?_
      refine g_istore (pc' := 22) (lv' := [(4, .int 0), (0, .ref a_o), (1, .int v1), (2, .int v2), (3, .int v3)]) C d_Mo_least_20 rfl (by decide) rfl ?_
      refine g_lv (lv' := [(0, .ref a_o), (1, .int v1), (2, .int v2), (3, .int v3), (4, .int (0 : Int32))]) [1, 2, 3, 4, 0] rfl ?_
      exact w_Mo_least_L22 (a_o := a_o) (a_o_had := a_o_had) (a_o_told := a_o_told) (a_o_barred := a_o_barred) (a_o_cost := a_o_cost) (a_o_last := a_o_last) (a_o_often := a_o_often) (a_o_changeOf := a_o_changeOf) (a_o_changeAt := a_o_changeAt) (a_o_before := a_o_before) (a_o_behind := a_o_behind) (a_o_tape := a_o_tape) (a_o_act := a_o_act) (a_o_with := a_o_with) (a_o_lineMany := a_o_lineMany) (a_o_testEnd := a_o_testEnd) (a_o_lineEnd := a_o_lineEnd) (a_o_facts := a_o_facts) (a_o_pile := a_o_pile) (a_o_way := a_o_way) (a_o_bestWay := a_o_bestWay) (a_o_wasHad := a_o_wasHad) (a_o_wasLast := a_o_wasLast) (a_o_keptHad := a_o_keptHad) (a_o_keptTold := a_o_keptTold) (a_o_keptLast := a_o_keptLast) (a_o_keptOften := a_o_keptOften) (a_o_kind := a_o_kind) (a_o_traced := a_o_traced) (a_o_holds := a_o_holds) (a_o_size := a_o_size) (a_o_elements := a_o_elements) (a_o_shifted := a_o_shifted) C  (f_Mo_least_L13  n) ih 3000 v1 v2 v3 (0 : Int32) x_o_lamps x_o_cost hf
def f_Mo_least  (x_o_lamps : Int32) (x_o_cost : Nat → Int32) : Option (Int32) :=
  f_Mo_least_L13  3000 (0 : Int32) ((1 : Int32) <<< ((x_o_lamps - (1 : Int32)) &&& 31)) (0 : Int32) x_o_lamps x_o_cost
set_option maxRecDepth 20000 in
theorem c_Mo_least {l : Launch} {D : va_G} {dA : Nat → ClassId} {a_o a_o_had a_o_told a_o_barred a_o_cost a_o_last a_o_often a_o_changeOf a_o_changeAt a_o_before a_o_behind a_o_tape a_o_act a_o_with a_o_lineMany a_o_testEnd a_o_lineEnd a_o_facts a_o_pile a_o_way a_o_bestWay a_o_wasHad a_o_wasLast a_o_keptHad a_o_keptTold a_o_keptLast a_o_keptOften a_o_kind a_o_traced a_o_holds a_o_size a_o_elements a_o_shifted : Nat} {x_o_code : Int32} {x_o_at : Int32} {x_o_night : Int32} {x_o_spent : Int32} {x_o_rest : Int32} {x_o_shy : Int32} {x_o_hasBegun : Bool} {x_o_doneMany : Int32} {x_o_undoneMany : Int32} {x_o_taped : Int32} {x_o_here : Int32} {x_o_fault : Int32} {x_o_open : Int32} {x_o_laid : Int32} {x_o_hasLaw : Bool} {x_o_bestMany : Int32} {x_o_wasAt : Int32} {x_o_wasNight : Int32} {x_o_hasImage : Bool} {x_o_keptLamps : Int32} {x_o_keptAt : Int32} {x_o_keptNight : Int32} {x_o_keptSpent : Int32} {x_o_bodies : Int32} {x_o_traces : Int32} {x_o_lamps : Int32} {x_o_cost : Nat → Int32} {r0 : Int32}   (hf : f_Mo_least  x_o_lamps x_o_cost = some r0) : CT l y_Mo_least prog_13_method_22_code 5 (some .int) { frames := 0, cells := 0, slots := 0, locals := 0 } D dA [.ref a_o] [O_Mo a_o x_o_code x_o_lamps x_o_at x_o_night x_o_spent x_o_rest x_o_shy a_o_had a_o_told a_o_barred a_o_cost a_o_last a_o_often x_o_hasBegun x_o_doneMany x_o_undoneMany a_o_changeOf a_o_changeAt a_o_before a_o_behind a_o_tape x_o_taped x_o_here x_o_fault x_o_open x_o_laid a_o_act a_o_with a_o_lineMany a_o_testEnd a_o_lineEnd a_o_facts a_o_pile x_o_hasLaw a_o_way a_o_bestWay x_o_bestMany a_o_wasHad a_o_wasLast x_o_wasAt x_o_wasNight x_o_hasImage x_o_keptLamps x_o_keptAt x_o_keptNight x_o_keptSpent a_o_keptHad a_o_keptTold a_o_keptLast a_o_keptOften x_o_bodies a_o_kind x_o_traces a_o_traced a_o_holds a_o_size a_o_elements a_o_shifted, A_I dA a_o_cost 10 x_o_cost] (some (.int r0)) (fun _ : Unit => [O_Mo a_o x_o_code x_o_lamps x_o_at x_o_night x_o_spent x_o_rest x_o_shy a_o_had a_o_told a_o_barred a_o_cost a_o_last a_o_often x_o_hasBegun x_o_doneMany x_o_undoneMany a_o_changeOf a_o_changeAt a_o_before a_o_behind a_o_tape x_o_taped x_o_here x_o_fault x_o_open x_o_laid a_o_act a_o_with a_o_lineMany a_o_testEnd a_o_lineEnd a_o_facts a_o_pile x_o_hasLaw a_o_way a_o_bestWay x_o_bestMany a_o_wasHad a_o_wasLast x_o_wasAt x_o_wasNight x_o_hasImage x_o_keptLamps x_o_keptAt x_o_keptNight x_o_keptSpent a_o_keptHad a_o_keptTold a_o_keptLast a_o_keptOften x_o_bodies a_o_kind x_o_traces a_o_traced a_o_holds a_o_size a_o_elements a_o_shifted, A_I dA a_o_cost 10 x_o_cost]) := by
  refine ct_intro "OneLampModel" rfl (by decide +kernel) (Nat.le_of_ble_eq_true rfl) [(0, .ref a_o)] rfl (fun _ C => ?_)
  unfold f_Mo_least at hf
  refine g_iconst (pc' := 1) (v := 0) C d_Mo_least_0 rfl rfl ?_
  refine g_istore_n (pc' := 2) (lv' := [(1, .int 0), (0, .ref a_o)]) C d_Mo_least_1 rfl (by decide) rfl ?_
  refine g_iconst (pc' := 3) (v := 1) C d_Mo_least_2 rfl rfl ?_
  refine g_aload_n (pc' := 4) C 1 d_Mo_least_3 rfl rfl ?_
  refine g_get (pc' := 7) C kf_Mo 1 mw_4_139 d_Mo_least_4 rfl 0 rfl (by decide) rfl ?_
  refine g_iconst (pc' := 8) (v := 1) C d_Mo_least_7 rfl rfl ?_
  refine g_isub (pc' := 9) C d_Mo_least_8 rfl ?_
  refine g_ishl (pc' := 10) C d_Mo_least_9 rfl ?_
  refine g_istore_n (pc' := 11) (lv' := [(2, .int ((1 : Int32) <<< ((x_o_lamps - (1 : Int32)) &&& 31))), (1, .int 0), (0, .ref a_o)]) C d_Mo_least_10 rfl (by decide) rfl ?_
  refine g_iconst (pc' := 12) (v := 0) C d_Mo_least_11 rfl rfl ?_
  refine g_istore_n (pc' := 13) (lv' := [(3, .int 0), (2, .int ((1 : Int32) <<< ((x_o_lamps - (1 : Int32)) &&& 31))), (1, .int 0), (0, .ref a_o)]) C d_Mo_least_12 rfl (by decide) rfl ?_
  refine g_lv (lv' := [(0, .ref a_o), (1, .int (0 : Int32)), (2, .int ((1 : Int32) <<< ((x_o_lamps - (1 : Int32)) &&& 31))), (3, .int (0 : Int32))]) [3, 2, 1, 0] rfl ?_
  exact w_Mo_least_L13 (a_o := a_o) (a_o_had := a_o_had) (a_o_told := a_o_told) (a_o_barred := a_o_barred) (a_o_cost := a_o_cost) (a_o_last := a_o_last) (a_o_often := a_o_often) (a_o_changeOf := a_o_changeOf) (a_o_changeAt := a_o_changeAt) (a_o_before := a_o_before) (a_o_behind := a_o_behind) (a_o_tape := a_o_tape) (a_o_act := a_o_act) (a_o_with := a_o_with) (a_o_lineMany := a_o_lineMany) (a_o_testEnd := a_o_testEnd) (a_o_lineEnd := a_o_lineEnd) (a_o_facts := a_o_facts) (a_o_pile := a_o_pile) (a_o_way := a_o_way) (a_o_bestWay := a_o_bestWay) (a_o_wasHad := a_o_wasHad) (a_o_wasLast := a_o_wasLast) (a_o_keptHad := a_o_keptHad) (a_o_keptTold := a_o_keptTold) (a_o_keptLast := a_o_keptLast) (a_o_keptOften := a_o_keptOften) (a_o_kind := a_o_kind) (a_o_traced := a_o_traced) (a_o_holds := a_o_holds) (a_o_size := a_o_size) (a_o_elements := a_o_elements) (a_o_shifted := a_o_shifted) C   3000 (0 : Int32) ((1 : Int32) <<< ((x_o_lamps - (1 : Int32)) &&& 31)) (0 : Int32) x_o_lamps x_o_cost hf
def y_Mo_now : MethodName := ⟨"OneLampModel", "now", "(I)I"⟩
theorem yy_Mo_now : YV y_Mo_now prog_13_method_23_code 2 (some .int) 1 := ⟨mw_5_141, mw_1_12, mw_5_139, mw_5_140, by decide +kernel, by decide +kernel, by decide +kernel⟩
theorem d_Mo_now_0 : decode prog_13_method_23_code 0 = .ok (.aload_n 0, 1) := by decide +kernel
theorem d_Mo_now_1 : decode prog_13_method_23_code 1 = .ok (.invokevirtual 173, 3) := by decide +kernel
theorem d_Mo_now_4 : decode prog_13_method_23_code 4 = .ok (.iload_n 1, 1) := by decide +kernel
theorem d_Mo_now_5 : decode prog_13_method_23_code 5 = .ok (.tableswitch 87 0 7 #[47, 52, 57, 62, 67, 72, 77, 82], 47) := by decide +kernel
theorem d_Mo_now_52 : decode prog_13_method_23_code 52 = .ok (.aload_n 0, 1) := by decide +kernel
theorem d_Mo_now_53 : decode prog_13_method_23_code 53 = .ok (.getfield 7, 3) := by decide +kernel
theorem d_Mo_now_56 : decode prog_13_method_23_code 56 = .ok (.ireturn, 1) := by decide +kernel
theorem d_Mo_now_57 : decode prog_13_method_23_code 57 = .ok (.aload_n 0, 1) := by decide +kernel
theorem d_Mo_now_58 : decode prog_13_method_23_code 58 = .ok (.getfield 125, 3) := by decide +kernel
theorem d_Mo_now_61 : decode prog_13_method_23_code 61 = .ok (.ireturn, 1) := by decide +kernel
theorem d_Mo_now_62 : decode prog_13_method_23_code 62 = .ok (.aload_n 0, 1) := by decide +kernel
theorem d_Mo_now_63 : decode prog_13_method_23_code 63 = .ok (.getfield 128, 3) := by decide +kernel
theorem d_Mo_now_66 : decode prog_13_method_23_code 66 = .ok (.ireturn, 1) := by decide +kernel
theorem d_Mo_now_67 : decode prog_13_method_23_code 67 = .ok (.aload_n 0, 1) := by decide +kernel
theorem d_Mo_now_68 : decode prog_13_method_23_code 68 = .ok (.invokevirtual 176, 3) := by decide +kernel
theorem d_Mo_now_71 : decode prog_13_method_23_code 71 = .ok (.ireturn, 1) := by decide +kernel
theorem d_Mo_now_72 : decode prog_13_method_23_code 72 = .ok (.aload_n 0, 1) := by decide +kernel
theorem d_Mo_now_73 : decode prog_13_method_23_code 73 = .ok (.getfield 131, 3) := by decide +kernel
theorem d_Mo_now_76 : decode prog_13_method_23_code 76 = .ok (.ireturn, 1) := by decide +kernel
theorem d_Mo_now_77 : decode prog_13_method_23_code 77 = .ok (.aload_n 0, 1) := by decide +kernel
theorem d_Mo_now_78 : decode prog_13_method_23_code 78 = .ok (.invokevirtual 179, 3) := by decide +kernel
theorem d_Mo_now_81 : decode prog_13_method_23_code 81 = .ok (.ireturn, 1) := by decide +kernel
theorem d_Mo_now_82 : decode prog_13_method_23_code 82 = .ok (.aload_n 0, 1) := by decide +kernel
theorem d_Mo_now_83 : decode prog_13_method_23_code 83 = .ok (.getfield 149, 3) := by decide +kernel
theorem d_Mo_now_86 : decode prog_13_method_23_code 86 = .ok (.ireturn, 1) := by decide +kernel
theorem d_Mo_now_87 : decode prog_13_method_23_code 87 = .ok (.aload_n 0, 1) := by decide +kernel
theorem d_Mo_now_88 : decode prog_13_method_23_code 88 = .ok (.getfield 152, 3) := by decide +kernel
theorem d_Mo_now_91 : decode prog_13_method_23_code 91 = .ok (.ireturn, 1) := by decide +kernel
theorem d_Mo_now_92 : decode prog_13_method_23_code 92 = .ok (.iconst (-1), 1) := by decide +kernel
theorem d_Mo_now_93 : decode prog_13_method_23_code 93 = .ok (.ireturn, 1) := by decide +kernel
def f_Mo_now  (p1 : Int32) (x_o_lamps : Int32) (x_o_at : Int32) (x_o_night : Int32) (x_o_spent : Int32) (x_o_rest : Int32) (x_o_shy : Int32) (x_o_hasBegun : Bool) (x_o_had : Nat → Int32) (x_o_last : Nat → Int32) (x_o_often : Nat → Int32) (x_o_cost : Nat → Int32) : Option (Int32 × Int32 × Int32 × Int32 × Bool × (Nat → Int32) × (Nat → Int32) × (Nat → Int32)) :=
  (f_Mo_ready  x_o_at x_o_night x_o_spent x_o_hasBegun x_o_had x_o_last x_o_often).bind fun (u1, u2, u3, u4, u5, u6, u7) =>
  if p1 = 0 then
    (some (x_o_lamps, u1, u2, u3, u4, u5, u6, u7))
  else
  (if p1 = 1 then
    (some (u1, u1, u2, u3, u4, u5, u6, u7))
  else
  (if p1 = 2 then
    (some (u2, u1, u2, u3, u4, u5, u6, u7))
  else
  (if p1 = 3 then
    ((f_Mo_hadMany  x_o_lamps u5).bind fun r9 =>
    some (r9, u1, u2, u3, u4, u5, u6, u7))
  else
  (if p1 = 4 then
    (some (u3, u1, u2, u3, u4, u5, u6, u7))
  else
  (if p1 = 5 then
    ((f_Mo_least  x_o_lamps x_o_cost).bind fun r11 =>
    some (r11, u1, u2, u3, u4, u5, u6, u7))
  else
  (if p1 = 6 then
    (some (x_o_rest, u1, u2, u3, u4, u5, u6, u7))
  else
  (if p1 = 7 then
    (some (x_o_shy, u1, u2, u3, u4, u5, u6, u7))
  else
  (some ((-1 : Int32), u1, u2, u3, u4, u5, u6, u7)))))))))
set_option maxRecDepth 20000 in
theorem c_Mo_now {l : Launch} {D : va_G} {dA : Nat → ClassId} {a_o a_o_had a_o_told a_o_barred a_o_cost a_o_last a_o_often a_o_changeOf a_o_changeAt a_o_before a_o_behind a_o_tape a_o_act a_o_with a_o_lineMany a_o_testEnd a_o_lineEnd a_o_facts a_o_pile a_o_way a_o_bestWay a_o_wasHad a_o_wasLast a_o_keptHad a_o_keptTold a_o_keptLast a_o_keptOften a_o_kind a_o_traced a_o_holds a_o_size a_o_elements a_o_shifted : Nat} {x_o_code : Int32} {x_o_doneMany : Int32} {x_o_undoneMany : Int32} {x_o_taped : Int32} {x_o_here : Int32} {x_o_fault : Int32} {x_o_open : Int32} {x_o_laid : Int32} {x_o_hasLaw : Bool} {x_o_bestMany : Int32} {x_o_wasAt : Int32} {x_o_wasNight : Int32} {x_o_hasImage : Bool} {x_o_keptLamps : Int32} {x_o_keptAt : Int32} {x_o_keptNight : Int32} {x_o_keptSpent : Int32} {x_o_bodies : Int32} {x_o_traces : Int32} {p1 : Int32} {x_o_lamps : Int32} {x_o_at : Int32} {x_o_night : Int32} {x_o_spent : Int32} {x_o_rest : Int32} {x_o_shy : Int32} {x_o_hasBegun : Bool} {x_o_had : Nat → Int32} {x_o_last : Nat → Int32} {x_o_often : Nat → Int32} {x_o_cost : Nat → Int32} {r0 : Int32} {o_x_o_at : Int32} {o_x_o_night : Int32} {o_x_o_spent : Int32} {o_x_o_hasBegun : Bool} {o_x_o_had : Nat → Int32} {o_x_o_last : Nat → Int32} {o_x_o_often : Nat → Int32}   (hf : f_Mo_now  p1 x_o_lamps x_o_at x_o_night x_o_spent x_o_rest x_o_shy x_o_hasBegun x_o_had x_o_last x_o_often x_o_cost = some (r0, o_x_o_at, o_x_o_night, o_x_o_spent, o_x_o_hasBegun, o_x_o_had, o_x_o_last, o_x_o_often)) : CT l y_Mo_now prog_13_method_23_code 2 (some .int) { frames := 2, cells := 0, slots := 0, locals := 42 } D dA [.ref a_o, .int p1] [O_Mo a_o x_o_code x_o_lamps x_o_at x_o_night x_o_spent x_o_rest x_o_shy a_o_had a_o_told a_o_barred a_o_cost a_o_last a_o_often x_o_hasBegun x_o_doneMany x_o_undoneMany a_o_changeOf a_o_changeAt a_o_before a_o_behind a_o_tape x_o_taped x_o_here x_o_fault x_o_open x_o_laid a_o_act a_o_with a_o_lineMany a_o_testEnd a_o_lineEnd a_o_facts a_o_pile x_o_hasLaw a_o_way a_o_bestWay x_o_bestMany a_o_wasHad a_o_wasLast x_o_wasAt x_o_wasNight x_o_hasImage x_o_keptLamps x_o_keptAt x_o_keptNight x_o_keptSpent a_o_keptHad a_o_keptTold a_o_keptLast a_o_keptOften x_o_bodies a_o_kind x_o_traces a_o_traced a_o_holds a_o_size a_o_elements a_o_shifted, A_Z dA a_o_had 1024 x_o_had, A_I dA a_o_last 10 x_o_last, A_I dA a_o_often 10 x_o_often, A_I dA a_o_cost 10 x_o_cost] (some (.int r0)) (fun _ : Unit => [O_Mo a_o x_o_code x_o_lamps o_x_o_at o_x_o_night o_x_o_spent x_o_rest x_o_shy a_o_had a_o_told a_o_barred a_o_cost a_o_last a_o_often o_x_o_hasBegun x_o_doneMany x_o_undoneMany a_o_changeOf a_o_changeAt a_o_before a_o_behind a_o_tape x_o_taped x_o_here x_o_fault x_o_open x_o_laid a_o_act a_o_with a_o_lineMany a_o_testEnd a_o_lineEnd a_o_facts a_o_pile x_o_hasLaw a_o_way a_o_bestWay x_o_bestMany a_o_wasHad a_o_wasLast x_o_wasAt x_o_wasNight x_o_hasImage x_o_keptLamps x_o_keptAt x_o_keptNight x_o_keptSpent a_o_keptHad a_o_keptTold a_o_keptLast a_o_keptOften x_o_bodies a_o_kind x_o_traces a_o_traced a_o_holds a_o_size a_o_elements a_o_shifted, A_Z dA a_o_had 1024 o_x_o_had, A_I dA a_o_last 10 o_x_o_last, A_I dA a_o_often 10 o_x_o_often, A_I dA a_o_cost 10 x_o_cost]) := by
  refine ct_intro "OneLampModel" rfl (by decide +kernel) (Nat.le_of_ble_eq_true rfl) [(0, .ref a_o), (1, .int p1)] rfl (fun _ C => ?_)
  unfold f_Mo_now at hf
  refine g_aload_n (pc' := 1) C 0 d_Mo_now_0 rfl rfl ?_
  replace hf := g_bi hf; obtain ⟨⟨u1, u2, u3, u4, u5, u6, u7⟩, hc8, hf⟩ := hf
  dsimp only at hf
  refine g_callV (pc' := 4) (st1 := []) (ws1 := [O_Mo a_o x_o_code x_o_lamps u1 u2 u3 x_o_rest x_o_shy a_o_had a_o_told a_o_barred a_o_cost a_o_last a_o_often u4 x_o_doneMany x_o_undoneMany a_o_changeOf a_o_changeAt a_o_before a_o_behind a_o_tape x_o_taped x_o_here x_o_fault x_o_open x_o_laid a_o_act a_o_with a_o_lineMany a_o_testEnd a_o_lineEnd a_o_facts a_o_pile x_o_hasLaw a_o_way a_o_bestWay x_o_bestMany a_o_wasHad a_o_wasLast x_o_wasAt x_o_wasNight x_o_hasImage x_o_keptLamps x_o_keptAt x_o_keptNight x_o_keptSpent a_o_keptHad a_o_keptTold a_o_keptLast a_o_keptOften x_o_bodies a_o_kind x_o_traces a_o_traced a_o_holds a_o_size a_o_elements a_o_shifted, A_Z dA a_o_had 1024 u5, A_I dA a_o_last 10 u6, A_I dA a_o_often 10 u7, A_I dA a_o_cost 10 x_o_cost]) C (c_Mo_ready (l := l) (D := D) (dA := dA) (a_o := a_o) (a_o_had := a_o_had) (a_o_told := a_o_told) (a_o_barred := a_o_barred) (a_o_cost := a_o_cost) (a_o_last := a_o_last) (a_o_often := a_o_often) (a_o_changeOf := a_o_changeOf) (a_o_changeAt := a_o_changeAt) (a_o_before := a_o_before) (a_o_behind := a_o_behind) (a_o_tape := a_o_tape) (a_o_act := a_o_act) (a_o_with := a_o_with) (a_o_lineMany := a_o_lineMany) (a_o_testEnd := a_o_testEnd) (a_o_lineEnd := a_o_lineEnd) (a_o_facts := a_o_facts) (a_o_pile := a_o_pile) (a_o_way := a_o_way) (a_o_bestWay := a_o_bestWay) (a_o_wasHad := a_o_wasHad) (a_o_wasLast := a_o_wasLast) (a_o_keptHad := a_o_keptHad) (a_o_keptTold := a_o_keptTold) (a_o_keptLast := a_o_keptLast) (a_o_keptOften := a_o_keptOften) (a_o_kind := a_o_kind) (a_o_traced := a_o_traced) (a_o_holds := a_o_holds) (a_o_size := a_o_size) (a_o_elements := a_o_elements) (a_o_shifted := a_o_shifted) (x_o_code := x_o_code) (x_o_lamps := x_o_lamps) (x_o_rest := x_o_rest) (x_o_shy := x_o_shy) (x_o_doneMany := x_o_doneMany) (x_o_undoneMany := x_o_undoneMany) (x_o_taped := x_o_taped) (x_o_here := x_o_here) (x_o_fault := x_o_fault) (x_o_open := x_o_open) (x_o_laid := x_o_laid) (x_o_hasLaw := x_o_hasLaw) (x_o_bestMany := x_o_bestMany) (x_o_wasAt := x_o_wasAt) (x_o_wasNight := x_o_wasNight) (x_o_hasImage := x_o_hasImage) (x_o_keptLamps := x_o_keptLamps) (x_o_keptAt := x_o_keptAt) (x_o_keptNight := x_o_keptNight) (x_o_keptSpent := x_o_keptSpent) (x_o_bodies := x_o_bodies) (x_o_traces := x_o_traces)   hc8) yy_Mo_ready kf_Mo rfl mw_5_142 d_Mo_now_1 rfl [] rfl rfl (Nat.le_of_ble_eq_true rfl) ⟨Nat.le_of_ble_eq_true rfl, Nat.le_of_ble_eq_true rfl⟩ rfl rfl (Nat.zero_le _) (Nat.zero_le _) 0 rfl [0, 1, 2, 3] rfl (by decide +kernel) rfl (g_lay_sel _ _ _ _ [(0, true), (1, true), (2, true), (3, true), (4, false)] (by decide +kernel) rfl (by decide +kernel) rfl rfl) rfl ?_
  refine g_iload_n (pc' := 5) C 1 d_Mo_now_4 rfl rfl ?_
  by_cases q0 : p1 = 0
  · replace hf := g_ip q0 hf
    have e : (p1 : Int32).toInt = 0 := by rw [q0]; rfl
    refine g_tableIn (off := 47) (tgt := 52) C d_Mo_now_5 (by rw [e]; decide) (by rw [e]; decide) (by rw [e]; rfl) rfl ?_
    refine g_aload_n (pc' := 53) C 0 d_Mo_now_52 rfl rfl ?_
    refine g_get (pc' := 56) C kf_Mo 1 mw_4_139 d_Mo_now_53 rfl 0 rfl (by decide) rfl ?_
    replace hf := g_o2 hf; obtain ⟨h1, hf⟩ := hf; subst h1
    replace hf := g_o2 hf; obtain ⟨h1, hf⟩ := hf; subst h1
    replace hf := g_o2 hf; obtain ⟨h1, hf⟩ := hf; subst h1
    replace hf := g_o2 hf; obtain ⟨h1, hf⟩ := hf; subst h1
    replace hf := g_o2 hf; obtain ⟨h1, hf⟩ := hf; subst h1
    replace hf := g_o2 hf; obtain ⟨h1, hf⟩ := hf; subst h1
    replace hf := g_o2 hf; obtain ⟨h1, hf⟩ := hf; subst h1
    replace hf := Option.some.inj hf; subst hf
    exact g_iret C d_Mo_now_56 () rfl
  replace hf := g_in q0 hf
  by_cases q1 : p1 = 1
  · replace hf := g_ip q1 hf
    have e : (p1 : Int32).toInt = 1 := by rw [q1]; rfl
    refine g_tableIn (off := 52) (tgt := 57) C d_Mo_now_5 (by rw [e]; decide) (by rw [e]; decide) (by rw [e]; rfl) rfl ?_
    refine g_aload_n (pc' := 58) C 0 d_Mo_now_57 rfl rfl ?_
    refine g_get (pc' := 61) C kf_Mo 2 mw_4_140 d_Mo_now_58 rfl 0 rfl (by decide) rfl ?_
    replace hf := g_o2 hf; obtain ⟨h1, hf⟩ := hf; subst h1
    replace hf := g_o2 hf; obtain ⟨h1, hf⟩ := hf; subst h1
    replace hf := g_o2 hf; obtain ⟨h1, hf⟩ := hf; subst h1
    replace hf := g_o2 hf; obtain ⟨h1, hf⟩ := hf; subst h1
    replace hf := g_o2 hf; obtain ⟨h1, hf⟩ := hf; subst h1
    replace hf := g_o2 hf; obtain ⟨h1, hf⟩ := hf; subst h1
    replace hf := g_o2 hf; obtain ⟨h1, hf⟩ := hf; subst h1
    replace hf := Option.some.inj hf; subst hf
    exact g_iret C d_Mo_now_61 () rfl
  replace hf := g_in q1 hf
  by_cases q2 : p1 = 2
  · replace hf := g_ip q2 hf
    have e : (p1 : Int32).toInt = 2 := by rw [q2]; rfl
    refine g_tableIn (off := 57) (tgt := 62) C d_Mo_now_5 (by rw [e]; decide) (by rw [e]; decide) (by rw [e]; rfl) rfl ?_
    refine g_aload_n (pc' := 63) C 0 d_Mo_now_62 rfl rfl ?_
    refine g_get (pc' := 66) C kf_Mo 3 mw_4_141 d_Mo_now_63 rfl 0 rfl (by decide) rfl ?_
    replace hf := g_o2 hf; obtain ⟨h1, hf⟩ := hf; subst h1
    replace hf := g_o2 hf; obtain ⟨h1, hf⟩ := hf; subst h1
    replace hf := g_o2 hf; obtain ⟨h1, hf⟩ := hf; subst h1
    replace hf := g_o2 hf; obtain ⟨h1, hf⟩ := hf; subst h1
    replace hf := g_o2 hf; obtain ⟨h1, hf⟩ := hf; subst h1
    replace hf := g_o2 hf; obtain ⟨h1, hf⟩ := hf; subst h1
    replace hf := g_o2 hf; obtain ⟨h1, hf⟩ := hf; subst h1
    replace hf := Option.some.inj hf; subst hf
    exact g_iret C d_Mo_now_66 () rfl
  replace hf := g_in q2 hf
  by_cases q3 : p1 = 3
  · replace hf := g_ip q3 hf
    have e : (p1 : Int32).toInt = 3 := by rw [q3]; rfl
    refine g_tableIn (off := 62) (tgt := 67) C d_Mo_now_5 (by rw [e]; decide) (by rw [e]; decide) (by rw [e]; rfl) rfl ?_
    refine g_aload_n (pc' := 68) C 0 d_Mo_now_67 rfl rfl ?_
    replace hf := g_bi hf; obtain ⟨r9, hc10, hf⟩ := hf
    refine g_callV (pc' := 71) (st1 := [.int r9]) (ws1 := [O_Mo a_o x_o_code x_o_lamps u1 u2 u3 x_o_rest x_o_shy a_o_had a_o_told a_o_barred a_o_cost a_o_last a_o_often u4 x_o_doneMany x_o_undoneMany a_o_changeOf a_o_changeAt a_o_before a_o_behind a_o_tape x_o_taped x_o_here x_o_fault x_o_open x_o_laid a_o_act a_o_with a_o_lineMany a_o_testEnd a_o_lineEnd a_o_facts a_o_pile x_o_hasLaw a_o_way a_o_bestWay x_o_bestMany a_o_wasHad a_o_wasLast x_o_wasAt x_o_wasNight x_o_hasImage x_o_keptLamps x_o_keptAt x_o_keptNight x_o_keptSpent a_o_keptHad a_o_keptTold a_o_keptLast a_o_keptOften x_o_bodies a_o_kind x_o_traces a_o_traced a_o_holds a_o_size a_o_elements a_o_shifted, A_Z dA a_o_had 1024 u5, A_I dA a_o_last 10 u6, A_I dA a_o_often 10 u7, A_I dA a_o_cost 10 x_o_cost]) C (c_Mo_hadMany (l := l) (D := D) (dA := dA) (a_o := a_o) (a_o_had := a_o_had) (a_o_told := a_o_told) (a_o_barred := a_o_barred) (a_o_cost := a_o_cost) (a_o_last := a_o_last) (a_o_often := a_o_often) (a_o_changeOf := a_o_changeOf) (a_o_changeAt := a_o_changeAt) (a_o_before := a_o_before) (a_o_behind := a_o_behind) (a_o_tape := a_o_tape) (a_o_act := a_o_act) (a_o_with := a_o_with) (a_o_lineMany := a_o_lineMany) (a_o_testEnd := a_o_testEnd) (a_o_lineEnd := a_o_lineEnd) (a_o_facts := a_o_facts) (a_o_pile := a_o_pile) (a_o_way := a_o_way) (a_o_bestWay := a_o_bestWay) (a_o_wasHad := a_o_wasHad) (a_o_wasLast := a_o_wasLast) (a_o_keptHad := a_o_keptHad) (a_o_keptTold := a_o_keptTold) (a_o_keptLast := a_o_keptLast) (a_o_keptOften := a_o_keptOften) (a_o_kind := a_o_kind) (a_o_traced := a_o_traced) (a_o_holds := a_o_holds) (a_o_size := a_o_size) (a_o_elements := a_o_elements) (a_o_shifted := a_o_shifted) (x_o_code := x_o_code) (x_o_at := u1) (x_o_night := u2) (x_o_spent := u3) (x_o_rest := x_o_rest) (x_o_shy := x_o_shy) (x_o_hasBegun := u4) (x_o_doneMany := x_o_doneMany) (x_o_undoneMany := x_o_undoneMany) (x_o_taped := x_o_taped) (x_o_here := x_o_here) (x_o_fault := x_o_fault) (x_o_open := x_o_open) (x_o_laid := x_o_laid) (x_o_hasLaw := x_o_hasLaw) (x_o_bestMany := x_o_bestMany) (x_o_wasAt := x_o_wasAt) (x_o_wasNight := x_o_wasNight) (x_o_hasImage := x_o_hasImage) (x_o_keptLamps := x_o_keptLamps) (x_o_keptAt := x_o_keptAt) (x_o_keptNight := x_o_keptNight) (x_o_keptSpent := x_o_keptSpent) (x_o_bodies := x_o_bodies) (x_o_traces := x_o_traces)   hc10) yy_Mo_hadMany kf_Mo rfl mw_5_146 d_Mo_now_68 rfl [] rfl rfl (Nat.le_of_ble_eq_true rfl) ⟨Nat.le_of_ble_eq_true rfl, Nat.le_of_ble_eq_true rfl⟩ rfl rfl (Nat.zero_le _) (Nat.zero_le _) 0 rfl [0, 1] rfl (by decide +kernel) rfl (g_lay_sel _ _ _ _ [(0, true), (1, true), (2, false), (3, false), (4, false)] (by decide +kernel) rfl (by decide +kernel) rfl rfl) rfl ?_
    replace hf := g_o2 hf; obtain ⟨h1, hf⟩ := hf; subst h1
    replace hf := g_o2 hf; obtain ⟨h1, hf⟩ := hf; subst h1
    replace hf := g_o2 hf; obtain ⟨h1, hf⟩ := hf; subst h1
    replace hf := g_o2 hf; obtain ⟨h1, hf⟩ := hf; subst h1
    replace hf := g_o2 hf; obtain ⟨h1, hf⟩ := hf; subst h1
    replace hf := g_o2 hf; obtain ⟨h1, hf⟩ := hf; subst h1
    replace hf := g_o2 hf; obtain ⟨h1, hf⟩ := hf; subst h1
    replace hf := Option.some.inj hf; subst hf
    exact g_iret C d_Mo_now_71 () rfl
  replace hf := g_in q3 hf
  by_cases q4 : p1 = 4
  · replace hf := g_ip q4 hf
    have e : (p1 : Int32).toInt = 4 := by rw [q4]; rfl
    refine g_tableIn (off := 67) (tgt := 72) C d_Mo_now_5 (by rw [e]; decide) (by rw [e]; decide) (by rw [e]; rfl) rfl ?_
    refine g_aload_n (pc' := 73) C 0 d_Mo_now_72 rfl rfl ?_
    refine g_get (pc' := 76) C kf_Mo 4 mw_4_142 d_Mo_now_73 rfl 0 rfl (by decide) rfl ?_
    replace hf := g_o2 hf; obtain ⟨h1, hf⟩ := hf; subst h1
    replace hf := g_o2 hf; obtain ⟨h1, hf⟩ := hf; subst h1
    replace hf := g_o2 hf; obtain ⟨h1, hf⟩ := hf; subst h1
    replace hf := g_o2 hf; obtain ⟨h1, hf⟩ := hf; subst h1
    replace hf := g_o2 hf; obtain ⟨h1, hf⟩ := hf; subst h1
    replace hf := g_o2 hf; obtain ⟨h1, hf⟩ := hf; subst h1
    replace hf := g_o2 hf; obtain ⟨h1, hf⟩ := hf; subst h1
    replace hf := Option.some.inj hf; subst hf
    exact g_iret C d_Mo_now_76 () rfl
  replace hf := g_in q4 hf
  by_cases q5 : p1 = 5
  · replace hf := g_ip q5 hf
    have e : (p1 : Int32).toInt = 5 := by rw [q5]; rfl
    refine g_tableIn (off := 72) (tgt := 77) C d_Mo_now_5 (by rw [e]; decide) (by rw [e]; decide) (by rw [e]; rfl) rfl ?_
    refine g_aload_n (pc' := 78) C 0 d_Mo_now_77 rfl rfl ?_
    replace hf := g_bi hf; obtain ⟨r11, hc12, hf⟩ := hf
    refine g_callV (pc' := 81) (st1 := [.int r11]) (ws1 := [O_Mo a_o x_o_code x_o_lamps u1 u2 u3 x_o_rest x_o_shy a_o_had a_o_told a_o_barred a_o_cost a_o_last a_o_often u4 x_o_doneMany x_o_undoneMany a_o_changeOf a_o_changeAt a_o_before a_o_behind a_o_tape x_o_taped x_o_here x_o_fault x_o_open x_o_laid a_o_act a_o_with a_o_lineMany a_o_testEnd a_o_lineEnd a_o_facts a_o_pile x_o_hasLaw a_o_way a_o_bestWay x_o_bestMany a_o_wasHad a_o_wasLast x_o_wasAt x_o_wasNight x_o_hasImage x_o_keptLamps x_o_keptAt x_o_keptNight x_o_keptSpent a_o_keptHad a_o_keptTold a_o_keptLast a_o_keptOften x_o_bodies a_o_kind x_o_traces a_o_traced a_o_holds a_o_size a_o_elements a_o_shifted, A_Z dA a_o_had 1024 u5, A_I dA a_o_last 10 u6, A_I dA a_o_often 10 u7, A_I dA a_o_cost 10 x_o_cost]) C (c_Mo_least (l := l) (D := D) (dA := dA) (a_o := a_o) (a_o_had := a_o_had) (a_o_told := a_o_told) (a_o_barred := a_o_barred) (a_o_cost := a_o_cost) (a_o_last := a_o_last) (a_o_often := a_o_often) (a_o_changeOf := a_o_changeOf) (a_o_changeAt := a_o_changeAt) (a_o_before := a_o_before) (a_o_behind := a_o_behind) (a_o_tape := a_o_tape) (a_o_act := a_o_act) (a_o_with := a_o_with) (a_o_lineMany := a_o_lineMany) (a_o_testEnd := a_o_testEnd) (a_o_lineEnd := a_o_lineEnd) (a_o_facts := a_o_facts) (a_o_pile := a_o_pile) (a_o_way := a_o_way) (a_o_bestWay := a_o_bestWay) (a_o_wasHad := a_o_wasHad) (a_o_wasLast := a_o_wasLast) (a_o_keptHad := a_o_keptHad) (a_o_keptTold := a_o_keptTold) (a_o_keptLast := a_o_keptLast) (a_o_keptOften := a_o_keptOften) (a_o_kind := a_o_kind) (a_o_traced := a_o_traced) (a_o_holds := a_o_holds) (a_o_size := a_o_size) (a_o_elements := a_o_elements) (a_o_shifted := a_o_shifted) (x_o_code := x_o_code) (x_o_at := u1) (x_o_night := u2) (x_o_spent := u3) (x_o_rest := x_o_rest) (x_o_shy := x_o_shy) (x_o_hasBegun := u4) (x_o_doneMany := x_o_doneMany) (x_o_undoneMany := x_o_undoneMany) (x_o_taped := x_o_taped) (x_o_here := x_o_here) (x_o_fault := x_o_fault) (x_o_open := x_o_open) (x_o_laid := x_o_laid) (x_o_hasLaw := x_o_hasLaw) (x_o_bestMany := x_o_bestMany) (x_o_wasAt := x_o_wasAt) (x_o_wasNight := x_o_wasNight) (x_o_hasImage := x_o_hasImage) (x_o_keptLamps := x_o_keptLamps) (x_o_keptAt := x_o_keptAt) (x_o_keptNight := x_o_keptNight) (x_o_keptSpent := x_o_keptSpent) (x_o_bodies := x_o_bodies) (x_o_traces := x_o_traces)   hc12) yy_Mo_least kf_Mo rfl mw_5_150 d_Mo_now_78 rfl [] rfl rfl (Nat.le_of_ble_eq_true rfl) ⟨Nat.le_of_ble_eq_true rfl, Nat.le_of_ble_eq_true rfl⟩ rfl rfl (Nat.zero_le _) (Nat.zero_le _) 0 rfl [0, 4] rfl (by decide +kernel) rfl (g_lay_sel _ _ _ _ [(0, true), (1, false), (2, false), (3, false), (1, true)] (by decide +kernel) rfl (by decide +kernel) rfl rfl) rfl ?_
    replace hf := g_o2 hf; obtain ⟨h1, hf⟩ := hf; subst h1
    replace hf := g_o2 hf; obtain ⟨h1, hf⟩ := hf; subst h1
    replace hf := g_o2 hf; obtain ⟨h1, hf⟩ := hf; subst h1
    replace hf := g_o2 hf; obtain ⟨h1, hf⟩ := hf; subst h1
    replace hf := g_o2 hf; obtain ⟨h1, hf⟩ := hf; subst h1
    replace hf := g_o2 hf; obtain ⟨h1, hf⟩ := hf; subst h1
    replace hf := g_o2 hf; obtain ⟨h1, hf⟩ := hf; subst h1
    replace hf := Option.some.inj hf; subst hf
    exact g_iret C d_Mo_now_81 () rfl
  replace hf := g_in q5 hf
  by_cases q6 : p1 = 6
  · replace hf := g_ip q6 hf
    have e : (p1 : Int32).toInt = 6 := by rw [q6]; rfl
    refine g_tableIn (off := 77) (tgt := 82) C d_Mo_now_5 (by rw [e]; decide) (by rw [e]; decide) (by rw [e]; rfl) rfl ?_
    refine g_aload_n (pc' := 83) C 0 d_Mo_now_82 rfl rfl ?_
    refine g_get (pc' := 86) C kf_Mo 5 mw_4_143 d_Mo_now_83 rfl 0 rfl (by decide) rfl ?_
    replace hf := g_o2 hf; obtain ⟨h1, hf⟩ := hf; subst h1
    replace hf := g_o2 hf; obtain ⟨h1, hf⟩ := hf; subst h1
    replace hf := g_o2 hf; obtain ⟨h1, hf⟩ := hf; subst h1
    replace hf := g_o2 hf; obtain ⟨h1, hf⟩ := hf; subst h1
    replace hf := g_o2 hf; obtain ⟨h1, hf⟩ := hf; subst h1
    replace hf := g_o2 hf; obtain ⟨h1, hf⟩ := hf; subst h1
    replace hf := g_o2 hf; obtain ⟨h1, hf⟩ := hf; subst h1
    replace hf := Option.some.inj hf; subst hf
    exact g_iret C d_Mo_now_86 () rfl
  replace hf := g_in q6 hf
  by_cases q7 : p1 = 7
  · replace hf := g_ip q7 hf
    have e : (p1 : Int32).toInt = 7 := by rw [q7]; rfl
    refine g_tableIn (off := 82) (tgt := 87) C d_Mo_now_5 (by rw [e]; decide) (by rw [e]; decide) (by rw [e]; rfl) rfl ?_
    refine g_aload_n (pc' := 88) C 0 d_Mo_now_87 rfl rfl ?_
    refine g_get (pc' := 91) C kf_Mo 6 mw_4_144 d_Mo_now_88 rfl 0 rfl (by decide) rfl ?_
    replace hf := g_o2 hf; obtain ⟨h1, hf⟩ := hf; subst h1
    replace hf := g_o2 hf; obtain ⟨h1, hf⟩ := hf; subst h1
    replace hf := g_o2 hf; obtain ⟨h1, hf⟩ := hf; subst h1
    replace hf := g_o2 hf; obtain ⟨h1, hf⟩ := hf; subst h1
    replace hf := g_o2 hf; obtain ⟨h1, hf⟩ := hf; subst h1
    replace hf := g_o2 hf; obtain ⟨h1, hf⟩ := hf; subst h1
    replace hf := g_o2 hf; obtain ⟨h1, hf⟩ := hf; subst h1
    replace hf := Option.some.inj hf; subst hf
    exact g_iret C d_Mo_now_91 () rfl
  replace hf := g_in q7 hf
  refine g_tableOut (tgt := 92) C d_Mo_now_5 (by have e0 := lv_neT q0 (show (0 : Int32).toInt = 0 from rfl); have e1 := lv_neT q1 (show (1 : Int32).toInt = 1 from rfl); have e2 := lv_neT q2 (show (2 : Int32).toInt = 2 from rfl); have e3 := lv_neT q3 (show (3 : Int32).toInt = 3 from rfl); have e4 := lv_neT q4 (show (4 : Int32).toInt = 4 from rfl); have e5 := lv_neT q5 (show (5 : Int32).toInt = 5 from rfl); have e6 := lv_neT q6 (show (6 : Int32).toInt = 6 from rfl); have e7 := lv_neT q7 (show (7 : Int32).toInt = 7 from rfl); omega) rfl ?_
  refine g_iconst (pc' := 93) (v := (-1)) C d_Mo_now_92 rfl rfl ?_
  replace hf := g_o2 hf; obtain ⟨h1, hf⟩ := hf; subst h1
  replace hf := g_o2 hf; obtain ⟨h1, hf⟩ := hf; subst h1
  replace hf := g_o2 hf; obtain ⟨h1, hf⟩ := hf; subst h1
  replace hf := g_o2 hf; obtain ⟨h1, hf⟩ := hf; subst h1
  replace hf := g_o2 hf; obtain ⟨h1, hf⟩ := hf; subst h1
  replace hf := g_o2 hf; obtain ⟨h1, hf⟩ := hf; subst h1
  replace hf := g_o2 hf; obtain ⟨h1, hf⟩ := hf; subst h1
  replace hf := Option.some.inj hf; subst hf
  exact g_iret C d_Mo_now_93 () rfl
def y_Mo_feed : MethodName := ⟨"OneLampModel", "feed", "(I)I"⟩
theorem yy_Mo_feed : YV y_Mo_feed prog_13_method_24_code 2 (some .int) 1 := ⟨mw_5_157, mw_1_12, mw_5_155, mw_5_156, by decide +kernel, by decide +kernel, by decide +kernel⟩
theorem d_Mo_feed_0 : decode prog_13_method_24_code 0 = .ok (.iload_n 1, 1) := by decide +kernel
theorem d_Mo_feed_1 : decode prog_13_method_24_code 1 = .ok (.iconst 0, 1) := by decide +kernel
theorem d_Mo_feed_2 : decode prog_13_method_24_code 2 = .ok (.sipush 255, 3) := by decide +kernel
theorem d_Mo_feed_5 : decode prog_13_method_24_code 5 = .ok (.invokestatic 121, 3) := by decide +kernel
theorem d_Mo_feed_8 : decode prog_13_method_24_code 8 = .ok (.ifCond .ne 5, 3) := by decide +kernel
theorem d_Mo_feed_11 : decode prog_13_method_24_code 11 = .ok (.iconst (-1), 1) := by decide +kernel
theorem d_Mo_feed_12 : decode prog_13_method_24_code 12 = .ok (.ireturn, 1) := by decide +kernel
theorem d_Mo_feed_13 : decode prog_13_method_24_code 13 = .ok (.aload_n 0, 1) := by decide +kernel
theorem d_Mo_feed_14 : decode prog_13_method_24_code 14 = .ok (.getfield 182, 3) := by decide +kernel
theorem d_Mo_feed_17 : decode prog_13_method_24_code 17 = .ok (.bipush 120, 2) := by decide +kernel
theorem d_Mo_feed_19 : decode prog_13_method_24_code 19 = .ok (.if_icmp .ne 6, 3) := by decide +kernel
theorem d_Mo_feed_22 : decode prog_13_method_24_code 22 = .ok (.bipush (-3), 2) := by decide +kernel
theorem d_Mo_feed_24 : decode prog_13_method_24_code 24 = .ok (.ireturn, 1) := by decide +kernel
theorem d_Mo_feed_25 : decode prog_13_method_24_code 25 = .ok (.aload_n 0, 1) := by decide +kernel
theorem d_Mo_feed_26 : decode prog_13_method_24_code 26 = .ok (.getfield 45, 3) := by decide +kernel
theorem d_Mo_feed_29 : decode prog_13_method_24_code 29 = .ok (.aload_n 0, 1) := by decide +kernel
theorem d_Mo_feed_30 : decode prog_13_method_24_code 30 = .ok (.getfield 182, 3) := by decide +kernel
theorem d_Mo_feed_33 : decode prog_13_method_24_code 33 = .ok (.iload_n 1, 1) := by decide +kernel
theorem d_Mo_feed_34 : decode prog_13_method_24_code 34 = .ok (.i2b, 1) := by decide +kernel
theorem d_Mo_feed_35 : decode prog_13_method_24_code 35 = .ok (.bastore, 1) := by decide +kernel
theorem d_Mo_feed_36 : decode prog_13_method_24_code 36 = .ok (.aload_n 0, 1) := by decide +kernel
theorem d_Mo_feed_37 : decode prog_13_method_24_code 37 = .ok (.dup, 1) := by decide +kernel
theorem d_Mo_feed_38 : decode prog_13_method_24_code 38 = .ok (.getfield 182, 3) := by decide +kernel
theorem d_Mo_feed_41 : decode prog_13_method_24_code 41 = .ok (.iconst 1, 1) := by decide +kernel
theorem d_Mo_feed_42 : decode prog_13_method_24_code 42 = .ok (.iadd, 1) := by decide +kernel
theorem d_Mo_feed_43 : decode prog_13_method_24_code 43 = .ok (.putfield 182, 3) := by decide +kernel
theorem d_Mo_feed_46 : decode prog_13_method_24_code 46 = .ok (.aload_n 0, 1) := by decide +kernel
theorem d_Mo_feed_47 : decode prog_13_method_24_code 47 = .ok (.getfield 182, 3) := by decide +kernel
theorem d_Mo_feed_50 : decode prog_13_method_24_code 50 = .ok (.ireturn, 1) := by decide +kernel
def f_Mo_feed  (p1 : Int32) (x_o_taped : Int32) (x_o_tape : Nat → Int32) : Option (Int32 × Int32 × (Nat → Int32)) :=
  (f_Mo_in  p1 (0 : Int32) (255 : Int32)).bind fun r1 =>
  if r1 = true then
    (if x_o_taped = (120 : Int32) then
      (some ((-3 : Int32), x_o_taped, x_o_tape))
    else
      (if x_o_taped < 0 ∨ 120 ≤ Int32.toNatClampNeg x_o_taped then none else
      some ((x_o_taped + (1 : Int32)), (x_o_taped + (1 : Int32)), (upd x_o_tape (Int32.toNatClampNeg x_o_taped) (vp_nar .byte (Int8.toInt32 (Int32.toInt8 p1)))))))
  else
    (some ((-1 : Int32), x_o_taped, x_o_tape))
set_option maxRecDepth 20000 in
theorem c_Mo_feed {l : Launch} {D : va_G} {dA : Nat → ClassId} {a_o a_o_had a_o_told a_o_barred a_o_cost a_o_last a_o_often a_o_changeOf a_o_changeAt a_o_before a_o_behind a_o_tape a_o_act a_o_with a_o_lineMany a_o_testEnd a_o_lineEnd a_o_facts a_o_pile a_o_way a_o_bestWay a_o_wasHad a_o_wasLast a_o_keptHad a_o_keptTold a_o_keptLast a_o_keptOften a_o_kind a_o_traced a_o_holds a_o_size a_o_elements a_o_shifted : Nat} {x_o_code : Int32} {x_o_lamps : Int32} {x_o_at : Int32} {x_o_night : Int32} {x_o_spent : Int32} {x_o_rest : Int32} {x_o_shy : Int32} {x_o_hasBegun : Bool} {x_o_doneMany : Int32} {x_o_undoneMany : Int32} {x_o_here : Int32} {x_o_fault : Int32} {x_o_open : Int32} {x_o_laid : Int32} {x_o_hasLaw : Bool} {x_o_bestMany : Int32} {x_o_wasAt : Int32} {x_o_wasNight : Int32} {x_o_hasImage : Bool} {x_o_keptLamps : Int32} {x_o_keptAt : Int32} {x_o_keptNight : Int32} {x_o_keptSpent : Int32} {x_o_bodies : Int32} {x_o_traces : Int32} {p1 : Int32} {x_o_taped : Int32} {x_o_tape : Nat → Int32} {r0 : Int32} {o_x_o_taped : Int32} {o_x_o_tape : Nat → Int32}   (hf : f_Mo_feed  p1 x_o_taped x_o_tape = some (r0, o_x_o_taped, o_x_o_tape)) : CT l y_Mo_feed prog_13_method_24_code 2 (some .int) { frames := 1, cells := 0, slots := 0, locals := 22 } D dA [.ref a_o, .int p1] [O_Mo a_o x_o_code x_o_lamps x_o_at x_o_night x_o_spent x_o_rest x_o_shy a_o_had a_o_told a_o_barred a_o_cost a_o_last a_o_often x_o_hasBegun x_o_doneMany x_o_undoneMany a_o_changeOf a_o_changeAt a_o_before a_o_behind a_o_tape x_o_taped x_o_here x_o_fault x_o_open x_o_laid a_o_act a_o_with a_o_lineMany a_o_testEnd a_o_lineEnd a_o_facts a_o_pile x_o_hasLaw a_o_way a_o_bestWay x_o_bestMany a_o_wasHad a_o_wasLast x_o_wasAt x_o_wasNight x_o_hasImage x_o_keptLamps x_o_keptAt x_o_keptNight x_o_keptSpent a_o_keptHad a_o_keptTold a_o_keptLast a_o_keptOften x_o_bodies a_o_kind x_o_traces a_o_traced a_o_holds a_o_size a_o_elements a_o_shifted, A_B dA a_o_tape 120 x_o_tape] (some (.int r0)) (fun _ : Unit => [O_Mo a_o x_o_code x_o_lamps x_o_at x_o_night x_o_spent x_o_rest x_o_shy a_o_had a_o_told a_o_barred a_o_cost a_o_last a_o_often x_o_hasBegun x_o_doneMany x_o_undoneMany a_o_changeOf a_o_changeAt a_o_before a_o_behind a_o_tape o_x_o_taped x_o_here x_o_fault x_o_open x_o_laid a_o_act a_o_with a_o_lineMany a_o_testEnd a_o_lineEnd a_o_facts a_o_pile x_o_hasLaw a_o_way a_o_bestWay x_o_bestMany a_o_wasHad a_o_wasLast x_o_wasAt x_o_wasNight x_o_hasImage x_o_keptLamps x_o_keptAt x_o_keptNight x_o_keptSpent a_o_keptHad a_o_keptTold a_o_keptLast a_o_keptOften x_o_bodies a_o_kind x_o_traces a_o_traced a_o_holds a_o_size a_o_elements a_o_shifted, A_B dA a_o_tape 120 o_x_o_tape]) := by
  refine ct_intro "OneLampModel" rfl (by decide +kernel) (Nat.le_of_ble_eq_true rfl) [(0, .ref a_o), (1, .int p1)] rfl (fun _ C => ?_)
  unfold f_Mo_feed at hf
  refine g_iload_n (pc' := 1) C 1 d_Mo_feed_0 rfl rfl ?_
  refine g_iconst (pc' := 2) (v := 0) C d_Mo_feed_1 rfl rfl ?_
  refine g_sipush (pc' := 5) (v := 255) C d_Mo_feed_2 rfl rfl ?_
  replace hf := g_bi hf; obtain ⟨r1, hc2, hf⟩ := hf
  refine g_callS (pc' := 8) (st1 := [.int (b2i r1)]) (ws1 := [O_Mo a_o x_o_code x_o_lamps x_o_at x_o_night x_o_spent x_o_rest x_o_shy a_o_had a_o_told a_o_barred a_o_cost a_o_last a_o_often x_o_hasBegun x_o_doneMany x_o_undoneMany a_o_changeOf a_o_changeAt a_o_before a_o_behind a_o_tape x_o_taped x_o_here x_o_fault x_o_open x_o_laid a_o_act a_o_with a_o_lineMany a_o_testEnd a_o_lineEnd a_o_facts a_o_pile x_o_hasLaw a_o_way a_o_bestWay x_o_bestMany a_o_wasHad a_o_wasLast x_o_wasAt x_o_wasNight x_o_hasImage x_o_keptLamps x_o_keptAt x_o_keptNight x_o_keptSpent a_o_keptHad a_o_keptTold a_o_keptLast a_o_keptOften x_o_bodies a_o_kind x_o_traces a_o_traced a_o_holds a_o_size a_o_elements a_o_shifted, A_B dA a_o_tape 120 x_o_tape]) C (c_Mo_in (l := l) (D := D) (dA := dA)    hc2) yy_Mo_in mw_5_80 d_Mo_feed_5 rfl [] rfl rfl (Nat.le_of_ble_eq_true rfl) ⟨Nat.le_of_ble_eq_true rfl, Nat.le_of_ble_eq_true rfl⟩ rfl rfl (Nat.zero_le _) (Nat.zero_le _) [] rfl (by decide +kernel) rfl (g_lay_sel _ _ _ _ [(0, false), (1, false)] (by decide +kernel) rfl (by decide +kernel) rfl rfl) rfl ?_
  refine g_if_neb (pc' := 11) (tgt := 13) C d_Mo_feed_8 rfl rfl (fun h => ?_) (fun h => ?_)
  · replace hf := g_bt h hf
    refine g_aload_n (pc' := 14) C 0 d_Mo_feed_13 rfl rfl ?_
    refine g_get (pc' := 17) C kf_Mo 21 mw_4_159 d_Mo_feed_14 rfl 0 rfl (by decide) rfl ?_
    refine g_bipush (pc' := 19) (v := 120) C d_Mo_feed_17 rfl rfl ?_
    refine g_icmp_ne (pc' := 22) (tgt := 25) C d_Mo_feed_19 rfl rfl (fun h => ?_) (fun h => ?_)
    · replace hf := g_in h hf
      refine g_aload_n (pc' := 26) C 0 d_Mo_feed_25 rfl rfl ?_
      refine g_get (pc' := 29) C kf_Mo 20 mw_4_158 d_Mo_feed_26 rfl 0 rfl (by decide) rfl ?_
      refine g_aload_n (pc' := 30) C 0 d_Mo_feed_29 rfl rfl ?_
      refine g_get (pc' := 33) C kf_Mo 21 mw_4_159 d_Mo_feed_30 rfl 0 rfl (by decide) rfl ?_
      refine g_iload_n (pc' := 34) C 1 d_Mo_feed_33 rfl rfl ?_
      refine g_i2b (pc' := 35) C d_Mo_feed_34 rfl ?_
      have hb := g_ck hf
      replace hf := g_in hb hf
      refine g_bast (pc' := 36) (ws' := [O_Mo a_o x_o_code x_o_lamps x_o_at x_o_night x_o_spent x_o_rest x_o_shy a_o_had a_o_told a_o_barred a_o_cost a_o_last a_o_often x_o_hasBegun x_o_doneMany x_o_undoneMany a_o_changeOf a_o_changeAt a_o_before a_o_behind a_o_tape x_o_taped x_o_here x_o_fault x_o_open x_o_laid a_o_act a_o_with a_o_lineMany a_o_testEnd a_o_lineEnd a_o_facts a_o_pile x_o_hasLaw a_o_way a_o_bestWay x_o_bestMany a_o_wasHad a_o_wasLast x_o_wasAt x_o_wasNight x_o_hasImage x_o_keptLamps x_o_keptAt x_o_keptNight x_o_keptSpent a_o_keptHad a_o_keptTold a_o_keptLast a_o_keptOften x_o_bodies a_o_kind x_o_traces a_o_traced a_o_holds a_o_size a_o_elements a_o_shifted, A_B dA a_o_tape 120 (upd x_o_tape (Int32.toNatClampNeg x_o_taped) (vp_nar .byte (Int8.toInt32 (Int32.toInt8 p1))))]) C d_Mo_feed_35 rfl 1 rfl hb rfl ?_
      refine g_aload_n (pc' := 37) C 0 d_Mo_feed_36 rfl rfl ?_
      refine g_dup (pc' := 38) C d_Mo_feed_37 rfl rfl ?_
      refine g_get (pc' := 41) C kf_Mo 21 mw_4_159 d_Mo_feed_38 rfl 0 rfl (by decide) rfl ?_
      refine g_iconst (pc' := 42) (v := 1) C d_Mo_feed_41 rfl rfl ?_
      refine g_iadd (pc' := 43) C d_Mo_feed_42 rfl ?_
      refine g_put (pc' := 46) (ws' := [O_Mo a_o x_o_code x_o_lamps x_o_at x_o_night x_o_spent x_o_rest x_o_shy a_o_had a_o_told a_o_barred a_o_cost a_o_last a_o_often x_o_hasBegun x_o_doneMany x_o_undoneMany a_o_changeOf a_o_changeAt a_o_before a_o_behind a_o_tape (x_o_taped + (1 : Int32)) x_o_here x_o_fault x_o_open x_o_laid a_o_act a_o_with a_o_lineMany a_o_testEnd a_o_lineEnd a_o_facts a_o_pile x_o_hasLaw a_o_way a_o_bestWay x_o_bestMany a_o_wasHad a_o_wasLast x_o_wasAt x_o_wasNight x_o_hasImage x_o_keptLamps x_o_keptAt x_o_keptNight x_o_keptSpent a_o_keptHad a_o_keptTold a_o_keptLast a_o_keptOften x_o_bodies a_o_kind x_o_traces a_o_traced a_o_holds a_o_size a_o_elements a_o_shifted, A_B dA a_o_tape 120 (upd x_o_tape (Int32.toNatClampNeg x_o_taped) (vp_nar .byte (Int8.toInt32 (Int32.toInt8 p1))))]) C kf_Mo 21 mw_4_159 d_Mo_feed_43 rfl 0 rfl (by decide) rfl rfl rfl (Nat.le_of_ble_eq_true rfl) rfl ?_
      refine g_aload_n (pc' := 47) C 0 d_Mo_feed_46 rfl rfl ?_
      refine g_get (pc' := 50) C kf_Mo 21 mw_4_159 d_Mo_feed_47 rfl 0 rfl (by decide) rfl ?_
      replace hf := g_o2 hf; obtain ⟨h1, hf⟩ := hf; subst h1
      replace hf := g_o2 hf; obtain ⟨h1, hf⟩ := hf; subst h1
      replace hf := Option.some.inj hf; subst hf
      exact g_iret C d_Mo_feed_50 () rfl
    · replace hf := g_ip h hf
      refine g_bipush (pc' := 24) (v := (-3)) C d_Mo_feed_22 rfl rfl ?_
      replace hf := g_o2 hf; obtain ⟨h1, hf⟩ := hf; subst h1
      replace hf := g_o2 hf; obtain ⟨h1, hf⟩ := hf; subst h1
      replace hf := Option.some.inj hf; subst hf
      exact g_iret C d_Mo_feed_24 () rfl
  · replace hf := g_bf h hf
    refine g_iconst (pc' := 12) (v := (-1)) C d_Mo_feed_11 rfl rfl ?_
    replace hf := g_o2 hf; obtain ⟨h1, hf⟩ := hf; subst h1
    replace hf := g_o2 hf; obtain ⟨h1, hf⟩ := hf; subst h1
    replace hf := Option.some.inj hf; subst hf
    exact g_iret C d_Mo_feed_12 () rfl
def y_Mo_look : MethodName := ⟨"OneLampModel", "look", "()I"⟩
theorem yy_Mo_look : YV y_Mo_look prog_13_method_25_code 1 (some .int) 0 := ⟨mw_5_197, mw_1_12, mw_5_196, tm_s (y := y_Mo_look) (n := 58) (by decide +kernel), by decide +kernel, by decide +kernel, by decide +kernel⟩
theorem d_Mo_look_0 : decode prog_13_method_25_code 0 = .ok (.aload_n 0, 1) := by decide +kernel
theorem d_Mo_look_1 : decode prog_13_method_25_code 1 = .ok (.getfield 185, 3) := by decide +kernel
theorem d_Mo_look_4 : decode prog_13_method_25_code 4 = .ok (.aload_n 0, 1) := by decide +kernel
theorem d_Mo_look_5 : decode prog_13_method_25_code 5 = .ok (.getfield 182, 3) := by decide +kernel
theorem d_Mo_look_8 : decode prog_13_method_25_code 8 = .ok (.if_icmp .ge 15, 3) := by decide +kernel
theorem d_Mo_look_11 : decode prog_13_method_25_code 11 = .ok (.aload_n 0, 1) := by decide +kernel
theorem d_Mo_look_12 : decode prog_13_method_25_code 12 = .ok (.getfield 45, 3) := by decide +kernel
theorem d_Mo_look_15 : decode prog_13_method_25_code 15 = .ok (.aload_n 0, 1) := by decide +kernel
theorem d_Mo_look_16 : decode prog_13_method_25_code 16 = .ok (.getfield 185, 3) := by decide +kernel
theorem d_Mo_look_19 : decode prog_13_method_25_code 19 = .ok (.baload, 1) := by decide +kernel
theorem d_Mo_look_20 : decode prog_13_method_25_code 20 = .ok (.goto 4, 3) := by decide +kernel
theorem d_Mo_look_23 : decode prog_13_method_25_code 23 = .ok (.iconst (-1), 1) := by decide +kernel
theorem d_Mo_look_24 : decode prog_13_method_25_code 24 = .ok (.ireturn, 1) := by decide +kernel
def f_Mo_look  (x_o_taped : Int32) (x_o_here : Int32) (x_o_tape : Nat → Int32) : Option (Int32) :=
  if x_o_taped ≤ x_o_here then
    (some ((-1 : Int32)))
  else
    (if x_o_here < 0 ∨ 120 ≤ Int32.toNatClampNeg x_o_here then none else
    some ((x_o_tape (Int32.toNatClampNeg x_o_here))))
set_option maxRecDepth 20000 in
theorem c_Mo_look {l : Launch} {D : va_G} {dA : Nat → ClassId} {a_o a_o_had a_o_told a_o_barred a_o_cost a_o_last a_o_often a_o_changeOf a_o_changeAt a_o_before a_o_behind a_o_tape a_o_act a_o_with a_o_lineMany a_o_testEnd a_o_lineEnd a_o_facts a_o_pile a_o_way a_o_bestWay a_o_wasHad a_o_wasLast a_o_keptHad a_o_keptTold a_o_keptLast a_o_keptOften a_o_kind a_o_traced a_o_holds a_o_size a_o_elements a_o_shifted : Nat} {x_o_code : Int32} {x_o_lamps : Int32} {x_o_at : Int32} {x_o_night : Int32} {x_o_spent : Int32} {x_o_rest : Int32} {x_o_shy : Int32} {x_o_hasBegun : Bool} {x_o_doneMany : Int32} {x_o_undoneMany : Int32} {x_o_fault : Int32} {x_o_open : Int32} {x_o_laid : Int32} {x_o_hasLaw : Bool} {x_o_bestMany : Int32} {x_o_wasAt : Int32} {x_o_wasNight : Int32} {x_o_hasImage : Bool} {x_o_keptLamps : Int32} {x_o_keptAt : Int32} {x_o_keptNight : Int32} {x_o_keptSpent : Int32} {x_o_bodies : Int32} {x_o_traces : Int32} {x_o_taped : Int32} {x_o_here : Int32} {x_o_tape : Nat → Int32} {r0 : Int32}   (hf : f_Mo_look  x_o_taped x_o_here x_o_tape = some r0) : CT l y_Mo_look prog_13_method_25_code 1 (some .int) { frames := 0, cells := 0, slots := 0, locals := 0 } D dA [.ref a_o] [O_Mo a_o x_o_code x_o_lamps x_o_at x_o_night x_o_spent x_o_rest x_o_shy a_o_had a_o_told a_o_barred a_o_cost a_o_last a_o_often x_o_hasBegun x_o_doneMany x_o_undoneMany a_o_changeOf a_o_changeAt a_o_before a_o_behind a_o_tape x_o_taped x_o_here x_o_fault x_o_open x_o_laid a_o_act a_o_with a_o_lineMany a_o_testEnd a_o_lineEnd a_o_facts a_o_pile x_o_hasLaw a_o_way a_o_bestWay x_o_bestMany a_o_wasHad a_o_wasLast x_o_wasAt x_o_wasNight x_o_hasImage x_o_keptLamps x_o_keptAt x_o_keptNight x_o_keptSpent a_o_keptHad a_o_keptTold a_o_keptLast a_o_keptOften x_o_bodies a_o_kind x_o_traces a_o_traced a_o_holds a_o_size a_o_elements a_o_shifted, A_B dA a_o_tape 120 x_o_tape] (some (.int r0)) (fun _ : Unit => [O_Mo a_o x_o_code x_o_lamps x_o_at x_o_night x_o_spent x_o_rest x_o_shy a_o_had a_o_told a_o_barred a_o_cost a_o_last a_o_often x_o_hasBegun x_o_doneMany x_o_undoneMany a_o_changeOf a_o_changeAt a_o_before a_o_behind a_o_tape x_o_taped x_o_here x_o_fault x_o_open x_o_laid a_o_act a_o_with a_o_lineMany a_o_testEnd a_o_lineEnd a_o_facts a_o_pile x_o_hasLaw a_o_way a_o_bestWay x_o_bestMany a_o_wasHad a_o_wasLast x_o_wasAt x_o_wasNight x_o_hasImage x_o_keptLamps x_o_keptAt x_o_keptNight x_o_keptSpent a_o_keptHad a_o_keptTold a_o_keptLast a_o_keptOften x_o_bodies a_o_kind x_o_traces a_o_traced a_o_holds a_o_size a_o_elements a_o_shifted, A_B dA a_o_tape 120 x_o_tape]) := by
  refine ct_intro "OneLampModel" rfl (by decide +kernel) (Nat.le_of_ble_eq_true rfl) [(0, .ref a_o)] rfl (fun _ C => ?_)
  unfold f_Mo_look at hf
  refine g_aload_n (pc' := 1) C 0 d_Mo_look_0 rfl rfl ?_
  refine g_get (pc' := 4) C kf_Mo 22 mw_4_160 d_Mo_look_1 rfl 0 rfl (by decide) rfl ?_
  refine g_aload_n (pc' := 5) C 0 d_Mo_look_4 rfl rfl ?_
  refine g_get (pc' := 8) C kf_Mo 21 mw_4_159 d_Mo_look_5 rfl 0 rfl (by decide) rfl ?_
  refine g_icmp_ge (pc' := 11) (tgt := 23) C d_Mo_look_8 rfl rfl (fun h => ?_) (fun h => ?_)
  · replace hf := g_ip h hf
    refine g_iconst (pc' := 24) (v := (-1)) C d_Mo_look_23 rfl rfl ?_
    replace hf := Option.some.inj hf; subst hf
    exact g_iret C d_Mo_look_24 () rfl
  · replace hf := g_in h hf
    refine g_aload_n (pc' := 12) C 0 d_Mo_look_11 rfl rfl ?_
    refine g_get (pc' := 15) C kf_Mo 20 mw_4_158 d_Mo_look_12 rfl 0 rfl (by decide) rfl ?_
    refine g_aload_n (pc' := 16) C 0 d_Mo_look_15 rfl rfl ?_
    refine g_get (pc' := 19) C kf_Mo 22 mw_4_160 d_Mo_look_16 rfl 0 rfl (by decide) rfl ?_
    have hb := g_ck hf
    replace hf := g_in hb hf
    refine g_bald (pc' := 20) C d_Mo_look_19 rfl 1 rfl hb ?_
    refine g_goto (tgt := 24) C d_Mo_look_20 rfl ?_
    replace hf := Option.some.inj hf; subst hf
    exact g_iret C d_Mo_look_24 () rfl
def y_Mo_faulty : MethodName := ⟨"OneLampModel", "faulty", "()V"⟩
theorem yy_Mo_faulty : YV y_Mo_faulty prog_13_method_26_code 1 none 0 := ⟨mw_5_212, mw_1_12, mw_5_211, tm_s (y := y_Mo_faulty) (n := 58) (by decide +kernel), by decide +kernel, by decide +kernel, by decide +kernel⟩
theorem d_Mo_faulty_0 : decode prog_13_method_26_code 0 = .ok (.aload_n 0, 1) := by decide +kernel
theorem d_Mo_faulty_1 : decode prog_13_method_26_code 1 = .ok (.getfield 188, 3) := by decide +kernel
theorem d_Mo_faulty_4 : decode prog_13_method_26_code 4 = .ok (.ifCond .ge 11, 3) := by decide +kernel
theorem d_Mo_faulty_7 : decode prog_13_method_26_code 7 = .ok (.aload_n 0, 1) := by decide +kernel
theorem d_Mo_faulty_8 : decode prog_13_method_26_code 8 = .ok (.aload_n 0, 1) := by decide +kernel
theorem d_Mo_faulty_9 : decode prog_13_method_26_code 9 = .ok (.getfield 185, 3) := by decide +kernel
theorem d_Mo_faulty_12 : decode prog_13_method_26_code 12 = .ok (.putfield 188, 3) := by decide +kernel
theorem d_Mo_faulty_15 : decode prog_13_method_26_code 15 = .ok (.return_, 1) := by decide +kernel
def f_Mo_faulty  (x_o_here : Int32) (x_o_fault : Int32) : Option (Int32) :=
  if 0 ≤ x_o_fault then
    (some (x_o_fault))
  else
    (some (x_o_here))
set_option maxRecDepth 20000 in
theorem c_Mo_faulty {l : Launch} {D : va_G} {dA : Nat → ClassId} {a_o a_o_had a_o_told a_o_barred a_o_cost a_o_last a_o_often a_o_changeOf a_o_changeAt a_o_before a_o_behind a_o_tape a_o_act a_o_with a_o_lineMany a_o_testEnd a_o_lineEnd a_o_facts a_o_pile a_o_way a_o_bestWay a_o_wasHad a_o_wasLast a_o_keptHad a_o_keptTold a_o_keptLast a_o_keptOften a_o_kind a_o_traced a_o_holds a_o_size a_o_elements a_o_shifted : Nat} {x_o_code : Int32} {x_o_lamps : Int32} {x_o_at : Int32} {x_o_night : Int32} {x_o_spent : Int32} {x_o_rest : Int32} {x_o_shy : Int32} {x_o_hasBegun : Bool} {x_o_doneMany : Int32} {x_o_undoneMany : Int32} {x_o_taped : Int32} {x_o_open : Int32} {x_o_laid : Int32} {x_o_hasLaw : Bool} {x_o_bestMany : Int32} {x_o_wasAt : Int32} {x_o_wasNight : Int32} {x_o_hasImage : Bool} {x_o_keptLamps : Int32} {x_o_keptAt : Int32} {x_o_keptNight : Int32} {x_o_keptSpent : Int32} {x_o_bodies : Int32} {x_o_traces : Int32} {x_o_here : Int32} {x_o_fault : Int32} {o_x_o_fault : Int32}   (hf : f_Mo_faulty  x_o_here x_o_fault = some o_x_o_fault) : CT l y_Mo_faulty prog_13_method_26_code 1 none { frames := 0, cells := 0, slots := 0, locals := 0 } D dA [.ref a_o] [O_Mo a_o x_o_code x_o_lamps x_o_at x_o_night x_o_spent x_o_rest x_o_shy a_o_had a_o_told a_o_barred a_o_cost a_o_last a_o_often x_o_hasBegun x_o_doneMany x_o_undoneMany a_o_changeOf a_o_changeAt a_o_before a_o_behind a_o_tape x_o_taped x_o_here x_o_fault x_o_open x_o_laid a_o_act a_o_with a_o_lineMany a_o_testEnd a_o_lineEnd a_o_facts a_o_pile x_o_hasLaw a_o_way a_o_bestWay x_o_bestMany a_o_wasHad a_o_wasLast x_o_wasAt x_o_wasNight x_o_hasImage x_o_keptLamps x_o_keptAt x_o_keptNight x_o_keptSpent a_o_keptHad a_o_keptTold a_o_keptLast a_o_keptOften x_o_bodies a_o_kind x_o_traces a_o_traced a_o_holds a_o_size a_o_elements a_o_shifted] none (fun _ : Unit => [O_Mo a_o x_o_code x_o_lamps x_o_at x_o_night x_o_spent x_o_rest x_o_shy a_o_had a_o_told a_o_barred a_o_cost a_o_last a_o_often x_o_hasBegun x_o_doneMany x_o_undoneMany a_o_changeOf a_o_changeAt a_o_before a_o_behind a_o_tape x_o_taped x_o_here o_x_o_fault x_o_open x_o_laid a_o_act a_o_with a_o_lineMany a_o_testEnd a_o_lineEnd a_o_facts a_o_pile x_o_hasLaw a_o_way a_o_bestWay x_o_bestMany a_o_wasHad a_o_wasLast x_o_wasAt x_o_wasNight x_o_hasImage x_o_keptLamps x_o_keptAt x_o_keptNight x_o_keptSpent a_o_keptHad a_o_keptTold a_o_keptLast a_o_keptOften x_o_bodies a_o_kind x_o_traces a_o_traced a_o_holds a_o_size a_o_elements a_o_shifted]) := by
  refine ct_intro "OneLampModel" rfl (by decide +kernel) (Nat.le_of_ble_eq_true rfl) [(0, .ref a_o)] rfl (fun _ C => ?_)
  unfold f_Mo_faulty at hf
  refine g_aload_n (pc' := 1) C 0 d_Mo_faulty_0 rfl rfl ?_
  refine g_get (pc' := 4) C kf_Mo 23 mw_4_161 d_Mo_faulty_1 rfl 0 rfl (by decide) rfl ?_
  refine g_if_ge (pc' := 7) (tgt := 15) C d_Mo_faulty_4 rfl rfl (fun h => ?_) (fun h => ?_)
  · replace hf := g_ip h hf
    replace hf := Option.some.inj hf; subst hf
    exact g_vret C d_Mo_faulty_15 () rfl
  · replace hf := g_in h hf
    refine g_aload_n (pc' := 8) C 0 d_Mo_faulty_7 rfl rfl ?_
    refine g_aload_n (pc' := 9) C 0 d_Mo_faulty_8 rfl rfl ?_
    refine g_get (pc' := 12) C kf_Mo 22 mw_4_160 d_Mo_faulty_9 rfl 0 rfl (by decide) rfl ?_
    refine g_put (pc' := 15) (ws' := [O_Mo a_o x_o_code x_o_lamps x_o_at x_o_night x_o_spent x_o_rest x_o_shy a_o_had a_o_told a_o_barred a_o_cost a_o_last a_o_often x_o_hasBegun x_o_doneMany x_o_undoneMany a_o_changeOf a_o_changeAt a_o_before a_o_behind a_o_tape x_o_taped x_o_here x_o_here x_o_open x_o_laid a_o_act a_o_with a_o_lineMany a_o_testEnd a_o_lineEnd a_o_facts a_o_pile x_o_hasLaw a_o_way a_o_bestWay x_o_bestMany a_o_wasHad a_o_wasLast x_o_wasAt x_o_wasNight x_o_hasImage x_o_keptLamps x_o_keptAt x_o_keptNight x_o_keptSpent a_o_keptHad a_o_keptTold a_o_keptLast a_o_keptOften x_o_bodies a_o_kind x_o_traces a_o_traced a_o_holds a_o_size a_o_elements a_o_shifted]) C kf_Mo 23 mw_4_161 d_Mo_faulty_12 rfl 0 rfl (by decide) rfl rfl rfl (Nat.le_of_ble_eq_true rfl) rfl ?_
    replace hf := Option.some.inj hf; subst hf
    exact g_vret C d_Mo_faulty_15 () rfl
def y_Mo_addStep : MethodName := ⟨"OneLampModel", "addStep", "(II)V"⟩
theorem yy_Mo_addStep : YV y_Mo_addStep prog_13_method_27_code 3 none 2 := ⟨mw_5_204, mw_1_12, mw_5_203, tm_s (y := y_Mo_addStep) (n := 58) (by decide +kernel), by decide +kernel, by decide +kernel, by decide +kernel⟩
theorem d_Mo_addStep_0 : decode prog_13_method_27_code 0 = .ok (.aload_n 0, 1) := by decide +kernel
theorem d_Mo_addStep_1 : decode prog_13_method_27_code 1 = .ok (.getfield 49, 3) := by decide +kernel
theorem d_Mo_addStep_4 : decode prog_13_method_27_code 4 = .ok (.sipush 130, 3) := by decide +kernel
theorem d_Mo_addStep_7 : decode prog_13_method_27_code 7 = .ok (.aload_n 0, 1) := by decide +kernel
theorem d_Mo_addStep_8 : decode prog_13_method_27_code 8 = .ok (.getfield 191, 3) := by decide +kernel
theorem d_Mo_addStep_11 : decode prog_13_method_27_code 11 = .ok (.iadd, 1) := by decide +kernel
theorem d_Mo_addStep_12 : decode prog_13_method_27_code 12 = .ok (.iload_n 1, 1) := by decide +kernel
theorem d_Mo_addStep_13 : decode prog_13_method_27_code 13 = .ok (.i2b, 1) := by decide +kernel
theorem d_Mo_addStep_14 : decode prog_13_method_27_code 14 = .ok (.bastore, 1) := by decide +kernel
theorem d_Mo_addStep_15 : decode prog_13_method_27_code 15 = .ok (.aload_n 0, 1) := by decide +kernel
theorem d_Mo_addStep_16 : decode prog_13_method_27_code 16 = .ok (.getfield 52, 3) := by decide +kernel
theorem d_Mo_addStep_19 : decode prog_13_method_27_code 19 = .ok (.sipush 130, 3) := by decide +kernel
theorem d_Mo_addStep_22 : decode prog_13_method_27_code 22 = .ok (.aload_n 0, 1) := by decide +kernel
theorem d_Mo_addStep_23 : decode prog_13_method_27_code 23 = .ok (.getfield 191, 3) := by decide +kernel
theorem d_Mo_addStep_26 : decode prog_13_method_27_code 26 = .ok (.iadd, 1) := by decide +kernel
theorem d_Mo_addStep_27 : decode prog_13_method_27_code 27 = .ok (.iload_n 2, 1) := by decide +kernel
theorem d_Mo_addStep_28 : decode prog_13_method_27_code 28 = .ok (.iastore, 1) := by decide +kernel
theorem d_Mo_addStep_29 : decode prog_13_method_27_code 29 = .ok (.aload_n 0, 1) := by decide +kernel
theorem d_Mo_addStep_30 : decode prog_13_method_27_code 30 = .ok (.dup, 1) := by decide +kernel
theorem d_Mo_addStep_31 : decode prog_13_method_27_code 31 = .ok (.getfield 191, 3) := by decide +kernel
theorem d_Mo_addStep_34 : decode prog_13_method_27_code 34 = .ok (.iconst 1, 1) := by decide +kernel
theorem d_Mo_addStep_35 : decode prog_13_method_27_code 35 = .ok (.iadd, 1) := by decide +kernel
theorem d_Mo_addStep_36 : decode prog_13_method_27_code 36 = .ok (.putfield 191, 3) := by decide +kernel
theorem d_Mo_addStep_39 : decode prog_13_method_27_code 39 = .ok (.return_, 1) := by decide +kernel
def f_Mo_addStep  (p1 : Int32) (p2 : Int32) (x_o_laid : Int32) (x_o_act : Nat → Int32) (x_o_with : Nat → Int32) : Option (Int32 × (Nat → Int32) × (Nat → Int32)) :=
  if ((130 : Int32) + x_o_laid) < 0 ∨ 260 ≤ Int32.toNatClampNeg ((130 : Int32) + x_o_laid) then none else
  if ((130 : Int32) + x_o_laid) < 0 ∨ 260 ≤ Int32.toNatClampNeg ((130 : Int32) + x_o_laid) then none else
  some ((x_o_laid + (1 : Int32)), (upd x_o_act (Int32.toNatClampNeg ((130 : Int32) + x_o_laid)) (vp_nar .byte (Int8.toInt32 (Int32.toInt8 p1)))), (upd x_o_with (Int32.toNatClampNeg ((130 : Int32) + x_o_laid)) p2))
set_option maxRecDepth 20000 in
theorem c_Mo_addStep {l : Launch} {D : va_G} {dA : Nat → ClassId} {a_o a_o_had a_o_told a_o_barred a_o_cost a_o_last a_o_often a_o_changeOf a_o_changeAt a_o_before a_o_behind a_o_tape a_o_act a_o_with a_o_lineMany a_o_testEnd a_o_lineEnd a_o_facts a_o_pile a_o_way a_o_bestWay a_o_wasHad a_o_wasLast a_o_keptHad a_o_keptTold a_o_keptLast a_o_keptOften a_o_kind a_o_traced a_o_holds a_o_size a_o_elements a_o_shifted : Nat} {x_o_code : Int32} {x_o_lamps : Int32} {x_o_at : Int32} {x_o_night : Int32} {x_o_spent : Int32} {x_o_rest : Int32} {x_o_shy : Int32} {x_o_hasBegun : Bool} {x_o_doneMany : Int32} {x_o_undoneMany : Int32} {x_o_taped : Int32} {x_o_here : Int32} {x_o_fault : Int32} {x_o_open : Int32} {x_o_hasLaw : Bool} {x_o_bestMany : Int32} {x_o_wasAt : Int32} {x_o_wasNight : Int32} {x_o_hasImage : Bool} {x_o_keptLamps : Int32} {x_o_keptAt : Int32} {x_o_keptNight : Int32} {x_o_keptSpent : Int32} {x_o_bodies : Int32} {x_o_traces : Int32} {p1 : Int32} {p2 : Int32} {x_o_laid : Int32} {x_o_act : Nat → Int32} {x_o_with : Nat → Int32} {o_x_o_laid : Int32} {o_x_o_act : Nat → Int32} {o_x_o_with : Nat → Int32}   (hf : f_Mo_addStep  p1 p2 x_o_laid x_o_act x_o_with = some (o_x_o_laid, o_x_o_act, o_x_o_with)) : CT l y_Mo_addStep prog_13_method_27_code 3 none { frames := 0, cells := 0, slots := 0, locals := 0 } D dA [.ref a_o, .int p1, .int p2] [O_Mo a_o x_o_code x_o_lamps x_o_at x_o_night x_o_spent x_o_rest x_o_shy a_o_had a_o_told a_o_barred a_o_cost a_o_last a_o_often x_o_hasBegun x_o_doneMany x_o_undoneMany a_o_changeOf a_o_changeAt a_o_before a_o_behind a_o_tape x_o_taped x_o_here x_o_fault x_o_open x_o_laid a_o_act a_o_with a_o_lineMany a_o_testEnd a_o_lineEnd a_o_facts a_o_pile x_o_hasLaw a_o_way a_o_bestWay x_o_bestMany a_o_wasHad a_o_wasLast x_o_wasAt x_o_wasNight x_o_hasImage x_o_keptLamps x_o_keptAt x_o_keptNight x_o_keptSpent a_o_keptHad a_o_keptTold a_o_keptLast a_o_keptOften x_o_bodies a_o_kind x_o_traces a_o_traced a_o_holds a_o_size a_o_elements a_o_shifted, A_B dA a_o_act 260 x_o_act, A_I dA a_o_with 260 x_o_with] none (fun _ : Unit => [O_Mo a_o x_o_code x_o_lamps x_o_at x_o_night x_o_spent x_o_rest x_o_shy a_o_had a_o_told a_o_barred a_o_cost a_o_last a_o_often x_o_hasBegun x_o_doneMany x_o_undoneMany a_o_changeOf a_o_changeAt a_o_before a_o_behind a_o_tape x_o_taped x_o_here x_o_fault x_o_open o_x_o_laid a_o_act a_o_with a_o_lineMany a_o_testEnd a_o_lineEnd a_o_facts a_o_pile x_o_hasLaw a_o_way a_o_bestWay x_o_bestMany a_o_wasHad a_o_wasLast x_o_wasAt x_o_wasNight x_o_hasImage x_o_keptLamps x_o_keptAt x_o_keptNight x_o_keptSpent a_o_keptHad a_o_keptTold a_o_keptLast a_o_keptOften x_o_bodies a_o_kind x_o_traces a_o_traced a_o_holds a_o_size a_o_elements a_o_shifted, A_B dA a_o_act 260 o_x_o_act, A_I dA a_o_with 260 o_x_o_with]) := by
  refine ct_intro "OneLampModel" rfl (by decide +kernel) (Nat.le_of_ble_eq_true rfl) [(0, .ref a_o), (1, .int p1), (2, .int p2)] rfl (fun _ C => ?_)
  unfold f_Mo_addStep at hf
  refine g_aload_n (pc' := 1) C 0 d_Mo_addStep_0 rfl rfl ?_
  refine g_get (pc' := 4) C kf_Mo 26 mw_4_164 d_Mo_addStep_1 rfl 0 rfl (by decide) rfl ?_
  refine g_sipush (pc' := 7) (v := 130) C d_Mo_addStep_4 rfl rfl ?_
  refine g_aload_n (pc' := 8) C 0 d_Mo_addStep_7 rfl rfl ?_
  refine g_get (pc' := 11) C kf_Mo 25 mw_4_163 d_Mo_addStep_8 rfl 0 rfl (by decide) rfl ?_
  refine g_iadd (pc' := 12) C d_Mo_addStep_11 rfl ?_
  refine g_iload_n (pc' := 13) C 1 d_Mo_addStep_12 rfl rfl ?_
  refine g_i2b (pc' := 14) C d_Mo_addStep_13 rfl ?_
  have hb := g_ck hf
  replace hf := g_in hb hf
  refine g_bast (pc' := 15) (ws' := [O_Mo a_o x_o_code x_o_lamps x_o_at x_o_night x_o_spent x_o_rest x_o_shy a_o_had a_o_told a_o_barred a_o_cost a_o_last a_o_often x_o_hasBegun x_o_doneMany x_o_undoneMany a_o_changeOf a_o_changeAt a_o_before a_o_behind a_o_tape x_o_taped x_o_here x_o_fault x_o_open x_o_laid a_o_act a_o_with a_o_lineMany a_o_testEnd a_o_lineEnd a_o_facts a_o_pile x_o_hasLaw a_o_way a_o_bestWay x_o_bestMany a_o_wasHad a_o_wasLast x_o_wasAt x_o_wasNight x_o_hasImage x_o_keptLamps x_o_keptAt x_o_keptNight x_o_keptSpent a_o_keptHad a_o_keptTold a_o_keptLast a_o_keptOften x_o_bodies a_o_kind x_o_traces a_o_traced a_o_holds a_o_size a_o_elements a_o_shifted, A_B dA a_o_act 260 (upd x_o_act (Int32.toNatClampNeg ((130 : Int32) + x_o_laid)) (vp_nar .byte (Int8.toInt32 (Int32.toInt8 p1)))), A_I dA a_o_with 260 x_o_with]) C d_Mo_addStep_14 rfl 1 rfl hb rfl ?_
  refine g_aload_n (pc' := 16) C 0 d_Mo_addStep_15 rfl rfl ?_
  refine g_get (pc' := 19) C kf_Mo 27 mw_4_165 d_Mo_addStep_16 rfl 0 rfl (by decide) rfl ?_
  refine g_sipush (pc' := 22) (v := 130) C d_Mo_addStep_19 rfl rfl ?_
  refine g_aload_n (pc' := 23) C 0 d_Mo_addStep_22 rfl rfl ?_
  refine g_get (pc' := 26) C kf_Mo 25 mw_4_163 d_Mo_addStep_23 rfl 0 rfl (by decide) rfl ?_
  refine g_iadd (pc' := 27) C d_Mo_addStep_26 rfl ?_
  refine g_iload_n (pc' := 28) C 2 d_Mo_addStep_27 rfl rfl ?_
  have hb := g_ck hf
  replace hf := g_in hb hf
  refine g_iast (pc' := 29) (ws' := [O_Mo a_o x_o_code x_o_lamps x_o_at x_o_night x_o_spent x_o_rest x_o_shy a_o_had a_o_told a_o_barred a_o_cost a_o_last a_o_often x_o_hasBegun x_o_doneMany x_o_undoneMany a_o_changeOf a_o_changeAt a_o_before a_o_behind a_o_tape x_o_taped x_o_here x_o_fault x_o_open x_o_laid a_o_act a_o_with a_o_lineMany a_o_testEnd a_o_lineEnd a_o_facts a_o_pile x_o_hasLaw a_o_way a_o_bestWay x_o_bestMany a_o_wasHad a_o_wasLast x_o_wasAt x_o_wasNight x_o_hasImage x_o_keptLamps x_o_keptAt x_o_keptNight x_o_keptSpent a_o_keptHad a_o_keptTold a_o_keptLast a_o_keptOften x_o_bodies a_o_kind x_o_traces a_o_traced a_o_holds a_o_size a_o_elements a_o_shifted, A_B dA a_o_act 260 (upd x_o_act (Int32.toNatClampNeg ((130 : Int32) + x_o_laid)) (vp_nar .byte (Int8.toInt32 (Int32.toInt8 p1)))), A_I dA a_o_with 260 (upd x_o_with (Int32.toNatClampNeg ((130 : Int32) + x_o_laid)) p2)]) C d_Mo_addStep_28 rfl 2 rfl hb rfl ?_
  refine g_aload_n (pc' := 30) C 0 d_Mo_addStep_29 rfl rfl ?_
  refine g_dup (pc' := 31) C d_Mo_addStep_30 rfl rfl ?_
  refine g_get (pc' := 34) C kf_Mo 25 mw_4_163 d_Mo_addStep_31 rfl 0 rfl (by decide) rfl ?_
  refine g_iconst (pc' := 35) (v := 1) C d_Mo_addStep_34 rfl rfl ?_
  refine g_iadd (pc' := 36) C d_Mo_addStep_35 rfl ?_
  refine g_put (pc' := 39) (ws' := [O_Mo a_o x_o_code x_o_lamps x_o_at x_o_night x_o_spent x_o_rest x_o_shy a_o_had a_o_told a_o_barred a_o_cost a_o_last a_o_often x_o_hasBegun x_o_doneMany x_o_undoneMany a_o_changeOf a_o_changeAt a_o_before a_o_behind a_o_tape x_o_taped x_o_here x_o_fault x_o_open (x_o_laid + (1 : Int32)) a_o_act a_o_with a_o_lineMany a_o_testEnd a_o_lineEnd a_o_facts a_o_pile x_o_hasLaw a_o_way a_o_bestWay x_o_bestMany a_o_wasHad a_o_wasLast x_o_wasAt x_o_wasNight x_o_hasImage x_o_keptLamps x_o_keptAt x_o_keptNight x_o_keptSpent a_o_keptHad a_o_keptTold a_o_keptLast a_o_keptOften x_o_bodies a_o_kind x_o_traces a_o_traced a_o_holds a_o_size a_o_elements a_o_shifted, A_B dA a_o_act 260 (upd x_o_act (Int32.toNatClampNeg ((130 : Int32) + x_o_laid)) (vp_nar .byte (Int8.toInt32 (Int32.toInt8 p1)))), A_I dA a_o_with 260 (upd x_o_with (Int32.toNatClampNeg ((130 : Int32) + x_o_laid)) p2)]) C kf_Mo 25 mw_4_163 d_Mo_addStep_36 rfl 0 rfl (by decide) rfl rfl rfl (Nat.le_of_ble_eq_true rfl) rfl ?_
  replace hf := g_o2 hf; obtain ⟨h1, hf⟩ := hf; subst h1
  replace hf := g_o2 hf; obtain ⟨h1, hf⟩ := hf; subst h1
  replace hf := Option.some.inj hf; subst hf
  exact g_vret C d_Mo_addStep_39 () rfl
def y_Mo_nameOf : MethodName := ⟨"OneLampModel", "nameOf", "(I)I"⟩
theorem yy_Mo_nameOf : YS y_Mo_nameOf prog_13_method_28_code 1 (some .int) 1 := ⟨mw_5_200, mw_1_12, mw_5_199, by decide +kernel, by decide +kernel, by decide +kernel⟩
theorem d_Mo_nameOf_0 : decode prog_13_method_28_code 0 = .ok (.iload_n 0, 1) := by decide +kernel
theorem d_Mo_nameOf_1 : decode prog_13_method_28_code 1 = .ok (.tableswitch 59 104 112 #[57, 59, 59, 59, 53, 59, 55, 59, 51], 51) := by decide +kernel
theorem d_Mo_nameOf_52 : decode prog_13_method_28_code 52 = .ok (.iconst 0, 1) := by decide +kernel
theorem d_Mo_nameOf_53 : decode prog_13_method_28_code 53 = .ok (.ireturn, 1) := by decide +kernel
theorem d_Mo_nameOf_54 : decode prog_13_method_28_code 54 = .ok (.iconst 1, 1) := by decide +kernel
theorem d_Mo_nameOf_55 : decode prog_13_method_28_code 55 = .ok (.ireturn, 1) := by decide +kernel
theorem d_Mo_nameOf_56 : decode prog_13_method_28_code 56 = .ok (.iconst 2, 1) := by decide +kernel
theorem d_Mo_nameOf_57 : decode prog_13_method_28_code 57 = .ok (.ireturn, 1) := by decide +kernel
theorem d_Mo_nameOf_58 : decode prog_13_method_28_code 58 = .ok (.iconst 3, 1) := by decide +kernel
theorem d_Mo_nameOf_59 : decode prog_13_method_28_code 59 = .ok (.ireturn, 1) := by decide +kernel
theorem d_Mo_nameOf_60 : decode prog_13_method_28_code 60 = .ok (.iconst (-1), 1) := by decide +kernel
theorem d_Mo_nameOf_61 : decode prog_13_method_28_code 61 = .ok (.ireturn, 1) := by decide +kernel
def f_Mo_nameOf  (p0 : Int32) : Option (Int32) :=
  if p0 = 104 then
    (some ((3 : Int32)))
  else
  (if p0 = 108 then
    (some ((1 : Int32)))
  else
  (if p0 = 110 then
    (some ((2 : Int32)))
  else
  (if p0 = 112 then
    (some ((0 : Int32)))
  else
  (some ((-1 : Int32))))))
set_option maxRecDepth 20000 in
theorem c_Mo_nameOf {l : Launch} {D : va_G} {dA : Nat → ClassId}   {p0 : Int32} {r0 : Int32}   (hf : f_Mo_nameOf  p0 = some r0) : CT l y_Mo_nameOf prog_13_method_28_code 1 (some .int) { frames := 0, cells := 0, slots := 0, locals := 0 } D dA [.int p0] [] (some (.int r0)) (fun _ : Unit => []) := by
  refine ct_intro "OneLampModel" rfl (by decide +kernel) (Nat.le_of_ble_eq_true rfl) [(0, .int p0)] rfl (fun _ C => ?_)
  unfold f_Mo_nameOf at hf
  refine g_iload_n (pc' := 1) C 0 d_Mo_nameOf_0 rfl rfl ?_
  by_cases q0 : p0 = 104
  · replace hf := g_ip q0 hf
    have e : (p0 : Int32).toInt = 104 := by rw [q0]; rfl
    refine g_tableIn (off := 57) (tgt := 58) C d_Mo_nameOf_1 (by rw [e]; decide) (by rw [e]; decide) (by rw [e]; rfl) rfl ?_
    refine g_iconst (pc' := 59) (v := 3) C d_Mo_nameOf_58 rfl rfl ?_
    replace hf := Option.some.inj hf; subst hf
    exact g_iret C d_Mo_nameOf_59 () rfl
  replace hf := g_in q0 hf
  by_cases q1 : p0 = 108
  · replace hf := g_ip q1 hf
    have e : (p0 : Int32).toInt = 108 := by rw [q1]; rfl
    refine g_tableIn (off := 53) (tgt := 54) C d_Mo_nameOf_1 (by rw [e]; decide) (by rw [e]; decide) (by rw [e]; rfl) rfl ?_
    refine g_iconst (pc' := 55) (v := 1) C d_Mo_nameOf_54 rfl rfl ?_
    replace hf := Option.some.inj hf; subst hf
    exact g_iret C d_Mo_nameOf_55 () rfl
  replace hf := g_in q1 hf
  by_cases q2 : p0 = 110
  · replace hf := g_ip q2 hf
    have e : (p0 : Int32).toInt = 110 := by rw [q2]; rfl
    refine g_tableIn (off := 55) (tgt := 56) C d_Mo_nameOf_1 (by rw [e]; decide) (by rw [e]; decide) (by rw [e]; rfl) rfl ?_
    refine g_iconst (pc' := 57) (v := 2) C d_Mo_nameOf_56 rfl rfl ?_
    replace hf := Option.some.inj hf; subst hf
    exact g_iret C d_Mo_nameOf_57 () rfl
  replace hf := g_in q2 hf
  by_cases q3 : p0 = 112
  · replace hf := g_ip q3 hf
    have e : (p0 : Int32).toInt = 112 := by rw [q3]; rfl
    refine g_tableIn (off := 51) (tgt := 52) C d_Mo_nameOf_1 (by rw [e]; decide) (by rw [e]; decide) (by rw [e]; rfl) rfl ?_
    refine g_iconst (pc' := 53) (v := 0) C d_Mo_nameOf_52 rfl rfl ?_
    replace hf := Option.some.inj hf; subst hf
    exact g_iret C d_Mo_nameOf_53 () rfl
  replace hf := g_in q3 hf
  by_cases m105 : p0 = 105
  · have e : (p0 : Int32).toInt = 105 := by rw [m105]; rfl
    refine g_tableIn (off := 59) (tgt := 60) C d_Mo_nameOf_1 (by rw [e]; decide) (by rw [e]; decide) (by rw [e]; rfl) rfl ?_
    refine g_iconst (pc' := 61) (v := (-1)) C d_Mo_nameOf_60 rfl rfl ?_
    replace hf := Option.some.inj hf; subst hf
    exact g_iret C d_Mo_nameOf_61 () rfl
  by_cases m106 : p0 = 106
  · have e : (p0 : Int32).toInt = 106 := by rw [m106]; rfl
    refine g_tableIn (off := 59) (tgt := 60) C d_Mo_nameOf_1 (by rw [e]; decide) (by rw [e]; decide) (by rw [e]; rfl) rfl ?_
    refine g_iconst (pc' := 61) (v := (-1)) C d_Mo_nameOf_60 rfl rfl ?_
    replace hf := Option.some.inj hf; subst hf
    exact g_iret C d_Mo_nameOf_61 () rfl
  by_cases m107 : p0 = 107
  · have e : (p0 : Int32).toInt = 107 := by rw [m107]; rfl
    refine g_tableIn (off := 59) (tgt := 60) C d_Mo_nameOf_1 (by rw [e]; decide) (by rw [e]; decide) (by rw [e]; rfl) rfl ?_
    refine g_iconst (pc' := 61) (v := (-1)) C d_Mo_nameOf_60 rfl rfl ?_
    replace hf := Option.some.inj hf; subst hf
    exact g_iret C d_Mo_nameOf_61 () rfl
  by_cases m109 : p0 = 109
  · have e : (p0 : Int32).toInt = 109 := by rw [m109]; rfl
    refine g_tableIn (off := 59) (tgt := 60) C d_Mo_nameOf_1 (by rw [e]; decide) (by rw [e]; decide) (by rw [e]; rfl) rfl ?_
    refine g_iconst (pc' := 61) (v := (-1)) C d_Mo_nameOf_60 rfl rfl ?_
    replace hf := Option.some.inj hf; subst hf
    exact g_iret C d_Mo_nameOf_61 () rfl
  by_cases m111 : p0 = 111
  · have e : (p0 : Int32).toInt = 111 := by rw [m111]; rfl
    refine g_tableIn (off := 59) (tgt := 60) C d_Mo_nameOf_1 (by rw [e]; decide) (by rw [e]; decide) (by rw [e]; rfl) rfl ?_
    refine g_iconst (pc' := 61) (v := (-1)) C d_Mo_nameOf_60 rfl rfl ?_
    replace hf := Option.some.inj hf; subst hf
    exact g_iret C d_Mo_nameOf_61 () rfl
  refine g_tableOut (tgt := 60) C d_Mo_nameOf_1 (by have e104 := lv_neT q0 (show (104 : Int32).toInt = 104 from rfl); have e108 := lv_neT q1 (show (108 : Int32).toInt = 108 from rfl); have e110 := lv_neT q2 (show (110 : Int32).toInt = 110 from rfl); have e112 := lv_neT q3 (show (112 : Int32).toInt = 112 from rfl); have e2105 := lv_neT m105 (show (105 : Int32).toInt = 105 from rfl); have e2106 := lv_neT m106 (show (106 : Int32).toInt = 106 from rfl); have e2107 := lv_neT m107 (show (107 : Int32).toInt = 107 from rfl); have e2109 := lv_neT m109 (show (109 : Int32).toInt = 109 from rfl); have e2111 := lv_neT m111 (show (111 : Int32).toInt = 111 from rfl); omega) rfl ?_
  refine g_iconst (pc' := 61) (v := (-1)) C d_Mo_nameOf_60 rfl rfl ?_
  replace hf := Option.some.inj hf; subst hf
  exact g_iret C d_Mo_nameOf_61 () rfl
def y_Mo_opens : MethodName := ⟨"OneLampModel", "opens", "()Z"⟩
theorem yy_Mo_opens : YV y_Mo_opens prog_13_method_29_code 1 (some .boolean) 0 := ⟨mw_5_208, mw_1_12, mw_5_207, tm_s (y := y_Mo_opens) (n := 58) (by decide +kernel), by decide +kernel, by decide +kernel, by decide +kernel⟩
theorem d_Mo_opens_0 : decode prog_13_method_29_code 0 = .ok (.aload_n 0, 1) := by decide +kernel
theorem d_Mo_opens_1 : decode prog_13_method_29_code 1 = .ok (.getfield 194, 3) := by decide +kernel
theorem d_Mo_opens_4 : decode prog_13_method_29_code 4 = .ok (.bipush 6, 2) := by decide +kernel
theorem d_Mo_opens_6 : decode prog_13_method_29_code 6 = .ok (.if_icmp .ne 9, 3) := by decide +kernel
theorem d_Mo_opens_9 : decode prog_13_method_29_code 9 = .ok (.aload_n 0, 1) := by decide +kernel
theorem d_Mo_opens_10 : decode prog_13_method_29_code 10 = .ok (.invokevirtual 197, 3) := by decide +kernel
theorem d_Mo_opens_13 : decode prog_13_method_29_code 13 = .ok (.iconst 0, 1) := by decide +kernel
theorem d_Mo_opens_14 : decode prog_13_method_29_code 14 = .ok (.ireturn, 1) := by decide +kernel
theorem d_Mo_opens_15 : decode prog_13_method_29_code 15 = .ok (.aload_n 0, 1) := by decide +kernel
theorem d_Mo_opens_16 : decode prog_13_method_29_code 16 = .ok (.dup, 1) := by decide +kernel
theorem d_Mo_opens_17 : decode prog_13_method_29_code 17 = .ok (.getfield 194, 3) := by decide +kernel
theorem d_Mo_opens_20 : decode prog_13_method_29_code 20 = .ok (.iconst 1, 1) := by decide +kernel
theorem d_Mo_opens_21 : decode prog_13_method_29_code 21 = .ok (.iadd, 1) := by decide +kernel
theorem d_Mo_opens_22 : decode prog_13_method_29_code 22 = .ok (.putfield 194, 3) := by decide +kernel
theorem d_Mo_opens_25 : decode prog_13_method_29_code 25 = .ok (.aload_n 0, 1) := by decide +kernel
theorem d_Mo_opens_26 : decode prog_13_method_29_code 26 = .ok (.dup, 1) := by decide +kernel
theorem d_Mo_opens_27 : decode prog_13_method_29_code 27 = .ok (.getfield 185, 3) := by decide +kernel
theorem d_Mo_opens_30 : decode prog_13_method_29_code 30 = .ok (.iconst 1, 1) := by decide +kernel
theorem d_Mo_opens_31 : decode prog_13_method_29_code 31 = .ok (.iadd, 1) := by decide +kernel
theorem d_Mo_opens_32 : decode prog_13_method_29_code 32 = .ok (.putfield 185, 3) := by decide +kernel
theorem d_Mo_opens_35 : decode prog_13_method_29_code 35 = .ok (.iconst 1, 1) := by decide +kernel
theorem d_Mo_opens_36 : decode prog_13_method_29_code 36 = .ok (.ireturn, 1) := by decide +kernel
def f_Mo_opens  (x_o_here : Int32) (x_o_fault : Int32) (x_o_open : Int32) : Option (Bool × Int32 × Int32 × Int32) :=
  if x_o_open = (6 : Int32) then
    ((f_Mo_faulty  x_o_here x_o_fault).bind fun u1 =>
    some (false, x_o_here, u1, x_o_open))
  else
    (some (true, (x_o_here + (1 : Int32)), x_o_fault, (x_o_open + (1 : Int32))))
set_option maxRecDepth 20000 in
theorem c_Mo_opens {l : Launch} {D : va_G} {dA : Nat → ClassId} {a_o a_o_had a_o_told a_o_barred a_o_cost a_o_last a_o_often a_o_changeOf a_o_changeAt a_o_before a_o_behind a_o_tape a_o_act a_o_with a_o_lineMany a_o_testEnd a_o_lineEnd a_o_facts a_o_pile a_o_way a_o_bestWay a_o_wasHad a_o_wasLast a_o_keptHad a_o_keptTold a_o_keptLast a_o_keptOften a_o_kind a_o_traced a_o_holds a_o_size a_o_elements a_o_shifted : Nat} {x_o_code : Int32} {x_o_lamps : Int32} {x_o_at : Int32} {x_o_night : Int32} {x_o_spent : Int32} {x_o_rest : Int32} {x_o_shy : Int32} {x_o_hasBegun : Bool} {x_o_doneMany : Int32} {x_o_undoneMany : Int32} {x_o_taped : Int32} {x_o_laid : Int32} {x_o_hasLaw : Bool} {x_o_bestMany : Int32} {x_o_wasAt : Int32} {x_o_wasNight : Int32} {x_o_hasImage : Bool} {x_o_keptLamps : Int32} {x_o_keptAt : Int32} {x_o_keptNight : Int32} {x_o_keptSpent : Int32} {x_o_bodies : Int32} {x_o_traces : Int32} {x_o_here : Int32} {x_o_fault : Int32} {x_o_open : Int32} {r0 : Bool} {o_x_o_here : Int32} {o_x_o_fault : Int32} {o_x_o_open : Int32}   (hf : f_Mo_opens  x_o_here x_o_fault x_o_open = some (r0, o_x_o_here, o_x_o_fault, o_x_o_open)) : CT l y_Mo_opens prog_13_method_29_code 1 (some .boolean) { frames := 1, cells := 0, slots := 0, locals := 20 } D dA [.ref a_o] [O_Mo a_o x_o_code x_o_lamps x_o_at x_o_night x_o_spent x_o_rest x_o_shy a_o_had a_o_told a_o_barred a_o_cost a_o_last a_o_often x_o_hasBegun x_o_doneMany x_o_undoneMany a_o_changeOf a_o_changeAt a_o_before a_o_behind a_o_tape x_o_taped x_o_here x_o_fault x_o_open x_o_laid a_o_act a_o_with a_o_lineMany a_o_testEnd a_o_lineEnd a_o_facts a_o_pile x_o_hasLaw a_o_way a_o_bestWay x_o_bestMany a_o_wasHad a_o_wasLast x_o_wasAt x_o_wasNight x_o_hasImage x_o_keptLamps x_o_keptAt x_o_keptNight x_o_keptSpent a_o_keptHad a_o_keptTold a_o_keptLast a_o_keptOften x_o_bodies a_o_kind x_o_traces a_o_traced a_o_holds a_o_size a_o_elements a_o_shifted] (some (.int (b2i r0))) (fun _ : Unit => [O_Mo a_o x_o_code x_o_lamps x_o_at x_o_night x_o_spent x_o_rest x_o_shy a_o_had a_o_told a_o_barred a_o_cost a_o_last a_o_often x_o_hasBegun x_o_doneMany x_o_undoneMany a_o_changeOf a_o_changeAt a_o_before a_o_behind a_o_tape x_o_taped o_x_o_here o_x_o_fault o_x_o_open x_o_laid a_o_act a_o_with a_o_lineMany a_o_testEnd a_o_lineEnd a_o_facts a_o_pile x_o_hasLaw a_o_way a_o_bestWay x_o_bestMany a_o_wasHad a_o_wasLast x_o_wasAt x_o_wasNight x_o_hasImage x_o_keptLamps x_o_keptAt x_o_keptNight x_o_keptSpent a_o_keptHad a_o_keptTold a_o_keptLast a_o_keptOften x_o_bodies a_o_kind x_o_traces a_o_traced a_o_holds a_o_size a_o_elements a_o_shifted]) := by
  refine ct_intro "OneLampModel" rfl (by decide +kernel) (Nat.le_of_ble_eq_true rfl) [(0, .ref a_o)] rfl (fun _ C => ?_)
  unfold f_Mo_opens at hf
  refine g_aload_n (pc' := 1) C 0 d_Mo_opens_0 rfl rfl ?_
  refine g_get (pc' := 4) C kf_Mo 24 mw_4_162 d_Mo_opens_1 rfl 0 rfl (by decide) rfl ?_
  refine g_bipush (pc' := 6) (v := 6) C d_Mo_opens_4 rfl rfl ?_
  refine g_icmp_ne (pc' := 9) (tgt := 15) C d_Mo_opens_6 rfl rfl (fun h => ?_) (fun h => ?_)
  · replace hf := g_in h hf
    refine g_aload_n (pc' := 16) C 0 d_Mo_opens_15 rfl rfl ?_
    refine g_dup (pc' := 17) C d_Mo_opens_16 rfl rfl ?_
    refine g_get (pc' := 20) C kf_Mo 24 mw_4_162 d_Mo_opens_17 rfl 0 rfl (by decide) rfl ?_
    refine g_iconst (pc' := 21) (v := 1) C d_Mo_opens_20 rfl rfl ?_
    refine g_iadd (pc' := 22) C d_Mo_opens_21 rfl ?_
    refine g_put (pc' := 25) (ws' := [O_Mo a_o x_o_code x_o_lamps x_o_at x_o_night x_o_spent x_o_rest x_o_shy a_o_had a_o_told a_o_barred a_o_cost a_o_last a_o_often x_o_hasBegun x_o_doneMany x_o_undoneMany a_o_changeOf a_o_changeAt a_o_before a_o_behind a_o_tape x_o_taped x_o_here x_o_fault (x_o_open + (1 : Int32)) x_o_laid a_o_act a_o_with a_o_lineMany a_o_testEnd a_o_lineEnd a_o_facts a_o_pile x_o_hasLaw a_o_way a_o_bestWay x_o_bestMany a_o_wasHad a_o_wasLast x_o_wasAt x_o_wasNight x_o_hasImage x_o_keptLamps x_o_keptAt x_o_keptNight x_o_keptSpent a_o_keptHad a_o_keptTold a_o_keptLast a_o_keptOften x_o_bodies a_o_kind x_o_traces a_o_traced a_o_holds a_o_size a_o_elements a_o_shifted]) C kf_Mo 24 mw_4_162 d_Mo_opens_22 rfl 0 rfl (by decide) rfl rfl rfl (Nat.le_of_ble_eq_true rfl) rfl ?_
    refine g_aload_n (pc' := 26) C 0 d_Mo_opens_25 rfl rfl ?_
    refine g_dup (pc' := 27) C d_Mo_opens_26 rfl rfl ?_
    refine g_get (pc' := 30) C kf_Mo 22 mw_4_160 d_Mo_opens_27 rfl 0 rfl (by decide) rfl ?_
    refine g_iconst (pc' := 31) (v := 1) C d_Mo_opens_30 rfl rfl ?_
    refine g_iadd (pc' := 32) C d_Mo_opens_31 rfl ?_
    refine g_put (pc' := 35) (ws' := [O_Mo a_o x_o_code x_o_lamps x_o_at x_o_night x_o_spent x_o_rest x_o_shy a_o_had a_o_told a_o_barred a_o_cost a_o_last a_o_often x_o_hasBegun x_o_doneMany x_o_undoneMany a_o_changeOf a_o_changeAt a_o_before a_o_behind a_o_tape x_o_taped (x_o_here + (1 : Int32)) x_o_fault (x_o_open + (1 : Int32)) x_o_laid a_o_act a_o_with a_o_lineMany a_o_testEnd a_o_lineEnd a_o_facts a_o_pile x_o_hasLaw a_o_way a_o_bestWay x_o_bestMany a_o_wasHad a_o_wasLast x_o_wasAt x_o_wasNight x_o_hasImage x_o_keptLamps x_o_keptAt x_o_keptNight x_o_keptSpent a_o_keptHad a_o_keptTold a_o_keptLast a_o_keptOften x_o_bodies a_o_kind x_o_traces a_o_traced a_o_holds a_o_size a_o_elements a_o_shifted]) C kf_Mo 22 mw_4_160 d_Mo_opens_32 rfl 0 rfl (by decide) rfl rfl rfl (Nat.le_of_ble_eq_true rfl) rfl ?_
    refine g_iconst (pc' := 36) (v := 1) C d_Mo_opens_35 rfl rfl ?_
    replace hf := g_o2 hf; obtain ⟨h1, hf⟩ := hf; subst h1
    replace hf := g_o2 hf; obtain ⟨h1, hf⟩ := hf; subst h1
    replace hf := g_o2 hf; obtain ⟨h1, hf⟩ := hf; subst h1
    replace hf := Option.some.inj hf; subst hf
    exact g_zret C d_Mo_opens_36 () rfl
  · replace hf := g_ip h hf
    refine g_aload_n (pc' := 10) C 0 d_Mo_opens_9 rfl rfl ?_
    replace hf := g_bi hf; obtain ⟨u1, hc2, hf⟩ := hf
    refine g_callV (pc' := 13) (st1 := []) (ws1 := [O_Mo a_o x_o_code x_o_lamps x_o_at x_o_night x_o_spent x_o_rest x_o_shy a_o_had a_o_told a_o_barred a_o_cost a_o_last a_o_often x_o_hasBegun x_o_doneMany x_o_undoneMany a_o_changeOf a_o_changeAt a_o_before a_o_behind a_o_tape x_o_taped x_o_here u1 x_o_open x_o_laid a_o_act a_o_with a_o_lineMany a_o_testEnd a_o_lineEnd a_o_facts a_o_pile x_o_hasLaw a_o_way a_o_bestWay x_o_bestMany a_o_wasHad a_o_wasLast x_o_wasAt x_o_wasNight x_o_hasImage x_o_keptLamps x_o_keptAt x_o_keptNight x_o_keptSpent a_o_keptHad a_o_keptTold a_o_keptLast a_o_keptOften x_o_bodies a_o_kind x_o_traces a_o_traced a_o_holds a_o_size a_o_elements a_o_shifted]) C (c_Mo_faulty (l := l) (D := D) (dA := dA) (a_o := a_o) (a_o_had := a_o_had) (a_o_told := a_o_told) (a_o_barred := a_o_barred) (a_o_cost := a_o_cost) (a_o_last := a_o_last) (a_o_often := a_o_often) (a_o_changeOf := a_o_changeOf) (a_o_changeAt := a_o_changeAt) (a_o_before := a_o_before) (a_o_behind := a_o_behind) (a_o_tape := a_o_tape) (a_o_act := a_o_act) (a_o_with := a_o_with) (a_o_lineMany := a_o_lineMany) (a_o_testEnd := a_o_testEnd) (a_o_lineEnd := a_o_lineEnd) (a_o_facts := a_o_facts) (a_o_pile := a_o_pile) (a_o_way := a_o_way) (a_o_bestWay := a_o_bestWay) (a_o_wasHad := a_o_wasHad) (a_o_wasLast := a_o_wasLast) (a_o_keptHad := a_o_keptHad) (a_o_keptTold := a_o_keptTold) (a_o_keptLast := a_o_keptLast) (a_o_keptOften := a_o_keptOften) (a_o_kind := a_o_kind) (a_o_traced := a_o_traced) (a_o_holds := a_o_holds) (a_o_size := a_o_size) (a_o_elements := a_o_elements) (a_o_shifted := a_o_shifted) (x_o_code := x_o_code) (x_o_lamps := x_o_lamps) (x_o_at := x_o_at) (x_o_night := x_o_night) (x_o_spent := x_o_spent) (x_o_rest := x_o_rest) (x_o_shy := x_o_shy) (x_o_hasBegun := x_o_hasBegun) (x_o_doneMany := x_o_doneMany) (x_o_undoneMany := x_o_undoneMany) (x_o_taped := x_o_taped) (x_o_open := x_o_open) (x_o_laid := x_o_laid) (x_o_hasLaw := x_o_hasLaw) (x_o_bestMany := x_o_bestMany) (x_o_wasAt := x_o_wasAt) (x_o_wasNight := x_o_wasNight) (x_o_hasImage := x_o_hasImage) (x_o_keptLamps := x_o_keptLamps) (x_o_keptAt := x_o_keptAt) (x_o_keptNight := x_o_keptNight) (x_o_keptSpent := x_o_keptSpent) (x_o_bodies := x_o_bodies) (x_o_traces := x_o_traces)   hc2) yy_Mo_faulty kf_Mo rfl mw_5_209 d_Mo_opens_10 rfl [] rfl rfl (Nat.le_of_ble_eq_true rfl) ⟨Nat.le_of_ble_eq_true rfl, Nat.le_of_ble_eq_true rfl⟩ rfl rfl (Nat.zero_le _) (Nat.zero_le _) 0 rfl [0] rfl (by decide +kernel) rfl (g_lay_sel _ _ _ _ [(0, true)] (by decide +kernel) rfl (by decide +kernel) rfl rfl) rfl ?_
    refine g_iconst (pc' := 14) (v := 0) C d_Mo_opens_13 rfl rfl ?_
    replace hf := g_o2 hf; obtain ⟨h1, hf⟩ := hf; subst h1
    replace hf := g_o2 hf; obtain ⟨h1, hf⟩ := hf; subst h1
    replace hf := g_o2 hf; obtain ⟨h1, hf⟩ := hf; subst h1
    replace hf := Option.some.inj hf; subst hf
    exact g_zret C d_Mo_opens_14 () rfl
def y_Mo_figure : MethodName := ⟨"OneLampModel", "figure", "()V"⟩
theorem yy_Mo_figure : YV y_Mo_figure prog_13_method_30_code 3 none 0 := ⟨mw_5_216, mw_1_12, mw_5_215, tm_s (y := y_Mo_figure) (n := 58) (by decide +kernel), by decide +kernel, by decide +kernel, by decide +kernel⟩
theorem d_Mo_figure_0 : decode prog_13_method_30_code 0 = .ok (.iconst 0, 1) := by decide +kernel
theorem d_Mo_figure_1 : decode prog_13_method_30_code 1 = .ok (.istore_n 1, 1) := by decide +kernel
theorem d_Mo_figure_2 : decode prog_13_method_30_code 2 = .ok (.iconst 0, 1) := by decide +kernel
theorem d_Mo_figure_3 : decode prog_13_method_30_code 3 = .ok (.istore_n 2, 1) := by decide +kernel
theorem d_Mo_figure_4 : decode prog_13_method_30_code 4 = .ok (.iload_n 2, 1) := by decide +kernel
theorem d_Mo_figure_5 : decode prog_13_method_30_code 5 = .ok (.iconst 4, 1) := by decide +kernel
theorem d_Mo_figure_6 : decode prog_13_method_30_code 6 = .ok (.if_icmp .ge 46, 3) := by decide +kernel
theorem d_Mo_figure_9 : decode prog_13_method_30_code 9 = .ok (.aload_n 0, 1) := by decide +kernel
theorem d_Mo_figure_10 : decode prog_13_method_30_code 10 = .ok (.invokevirtual 200, 3) := by decide +kernel
theorem d_Mo_figure_13 : decode prog_13_method_30_code 13 = .ok (.bipush 48, 2) := by decide +kernel
theorem d_Mo_figure_15 : decode prog_13_method_30_code 15 = .ok (.bipush 57, 2) := by decide +kernel
theorem d_Mo_figure_17 : decode prog_13_method_30_code 17 = .ok (.invokestatic 121, 3) := by decide +kernel
theorem d_Mo_figure_20 : decode prog_13_method_30_code 20 = .ok (.ifCond .eq 32, 3) := by decide +kernel
theorem d_Mo_figure_23 : decode prog_13_method_30_code 23 = .ok (.bipush 10, 2) := by decide +kernel
theorem d_Mo_figure_25 : decode prog_13_method_30_code 25 = .ok (.iload_n 1, 1) := by decide +kernel
theorem d_Mo_figure_26 : decode prog_13_method_30_code 26 = .ok (.imul, 1) := by decide +kernel
theorem d_Mo_figure_27 : decode prog_13_method_30_code 27 = .ok (.aload_n 0, 1) := by decide +kernel
theorem d_Mo_figure_28 : decode prog_13_method_30_code 28 = .ok (.invokevirtual 200, 3) := by decide +kernel
theorem d_Mo_figure_31 : decode prog_13_method_30_code 31 = .ok (.iadd, 1) := by decide +kernel
theorem d_Mo_figure_32 : decode prog_13_method_30_code 32 = .ok (.bipush 48, 2) := by decide +kernel
theorem d_Mo_figure_34 : decode prog_13_method_30_code 34 = .ok (.isub, 1) := by decide +kernel
theorem d_Mo_figure_35 : decode prog_13_method_30_code 35 = .ok (.istore_n 1, 1) := by decide +kernel
theorem d_Mo_figure_36 : decode prog_13_method_30_code 36 = .ok (.iinc 2 1, 3) := by decide +kernel
theorem d_Mo_figure_39 : decode prog_13_method_30_code 39 = .ok (.aload_n 0, 1) := by decide +kernel
theorem d_Mo_figure_40 : decode prog_13_method_30_code 40 = .ok (.dup, 1) := by decide +kernel
theorem d_Mo_figure_41 : decode prog_13_method_30_code 41 = .ok (.getfield 185, 3) := by decide +kernel
theorem d_Mo_figure_44 : decode prog_13_method_30_code 44 = .ok (.iconst 1, 1) := by decide +kernel
theorem d_Mo_figure_45 : decode prog_13_method_30_code 45 = .ok (.iadd, 1) := by decide +kernel
theorem d_Mo_figure_46 : decode prog_13_method_30_code 46 = .ok (.putfield 185, 3) := by decide +kernel
theorem d_Mo_figure_49 : decode prog_13_method_30_code 49 = .ok (.goto (-45), 3) := by decide +kernel
theorem d_Mo_figure_52 : decode prog_13_method_30_code 52 = .ok (.iload_n 2, 1) := by decide +kernel
theorem d_Mo_figure_53 : decode prog_13_method_30_code 53 = .ok (.ifCond .eq 17, 3) := by decide +kernel
theorem d_Mo_figure_56 : decode prog_13_method_30_code 56 = .ok (.aload_n 0, 1) := by decide +kernel
theorem d_Mo_figure_57 : decode prog_13_method_30_code 57 = .ok (.invokevirtual 200, 3) := by decide +kernel
theorem d_Mo_figure_60 : decode prog_13_method_30_code 60 = .ok (.bipush 48, 2) := by decide +kernel
theorem d_Mo_figure_62 : decode prog_13_method_30_code 62 = .ok (.bipush 57, 2) := by decide +kernel
theorem d_Mo_figure_64 : decode prog_13_method_30_code 64 = .ok (.invokestatic 121, 3) := by decide +kernel
theorem d_Mo_figure_67 : decode prog_13_method_30_code 67 = .ok (.ifCond .eq 7, 3) := by decide +kernel
theorem d_Mo_figure_70 : decode prog_13_method_30_code 70 = .ok (.aload_n 0, 1) := by decide +kernel
theorem d_Mo_figure_71 : decode prog_13_method_30_code 71 = .ok (.invokevirtual 197, 3) := by decide +kernel
theorem d_Mo_figure_74 : decode prog_13_method_30_code 74 = .ok (.aload_n 0, 1) := by decide +kernel
theorem d_Mo_figure_75 : decode prog_13_method_30_code 75 = .ok (.iconst 1, 1) := by decide +kernel
theorem d_Mo_figure_76 : decode prog_13_method_30_code 76 = .ok (.iload_n 1, 1) := by decide +kernel
theorem d_Mo_figure_77 : decode prog_13_method_30_code 77 = .ok (.invokevirtual 203, 3) := by decide +kernel
theorem d_Mo_figure_80 : decode prog_13_method_30_code 80 = .ok (.return_, 1) := by decide +kernel
def f_Mo_figure_L74   (v1 : Int32) (x_o_here : Int32) (x_o_fault : Int32) (x_o_laid : Int32) (x_o_act : Nat → Int32) (x_o_with : Nat → Int32) : Option (Int32 × Int32 × Int32 × (Nat → Int32) × (Nat → Int32)) :=
  (f_Mo_addStep  (1 : Int32) v1 x_o_laid x_o_act x_o_with).bind fun (u13, u14, u15) =>
  some (x_o_here, x_o_fault, u13, u14, u15)
set_option maxRecDepth 20000 in
theorem w_Mo_figure_L74 {p : Program} {l : Launch} {e : Env} {s : State} {m : MethodId} {args : Array Value} {below : List Frame} {meth : Method} {c : Code} {D : va_G} {dA : Nat → ClassId} {A : Nat → Prop} (C : GC p s m args meth c prog_13_method_30_code 3 "OneLampModel" none D dA A) {a_o a_o_had a_o_told a_o_barred a_o_cost a_o_last a_o_often a_o_changeOf a_o_changeAt a_o_before a_o_behind a_o_tape a_o_act a_o_with a_o_lineMany a_o_testEnd a_o_lineEnd a_o_facts a_o_pile a_o_way a_o_bestWay a_o_wasHad a_o_wasLast a_o_keptHad a_o_keptTold a_o_keptLast a_o_keptOften a_o_kind a_o_traced a_o_holds a_o_size a_o_elements a_o_shifted : Nat} {x_o_code : Int32} {x_o_lamps : Int32} {x_o_at : Int32} {x_o_night : Int32} {x_o_spent : Int32} {x_o_rest : Int32} {x_o_shy : Int32} {x_o_hasBegun : Bool} {x_o_doneMany : Int32} {x_o_undoneMany : Int32} {x_o_taped : Int32} {x_o_open : Int32} {x_o_hasLaw : Bool} {x_o_bestMany : Int32} {x_o_wasAt : Int32} {x_o_wasNight : Int32} {x_o_hasImage : Bool} {x_o_keptLamps : Int32} {x_o_keptAt : Int32} {x_o_keptNight : Int32} {x_o_keptSpent : Int32} {x_o_bodies : Int32} {x_o_traces : Int32} {x_o_tape : Nat → Int32} {o_x_o_here : Int32} {o_x_o_fault : Int32} {o_x_o_laid : Int32} {o_x_o_act : Nat → Int32} {o_x_o_with : Nat → Int32}    (v1 : Int32) (x_o_here : Int32) (x_o_fault : Int32) (x_o_laid : Int32) (x_o_act : Nat → Int32) (x_o_with : Nat → Int32) (hf : f_Mo_figure_L74   v1 x_o_here x_o_fault x_o_laid x_o_act x_o_with = some (o_x_o_here, o_x_o_fault, o_x_o_laid, o_x_o_act, o_x_o_with)) : GG p l e { frames := 1, cells := 0, slots := 0, locals := 22 } s m args below meth c 3 D A 0 0 (MQ below (cQ D A none (fun _ : Unit => [O_Mo a_o x_o_code x_o_lamps x_o_at x_o_night x_o_spent x_o_rest x_o_shy a_o_had a_o_told a_o_barred a_o_cost a_o_last a_o_often x_o_hasBegun x_o_doneMany x_o_undoneMany a_o_changeOf a_o_changeAt a_o_before a_o_behind a_o_tape x_o_taped o_x_o_here o_x_o_fault x_o_open o_x_o_laid a_o_act a_o_with a_o_lineMany a_o_testEnd a_o_lineEnd a_o_facts a_o_pile x_o_hasLaw a_o_way a_o_bestWay x_o_bestMany a_o_wasHad a_o_wasLast x_o_wasAt x_o_wasNight x_o_hasImage x_o_keptLamps x_o_keptAt x_o_keptNight x_o_keptSpent a_o_keptHad a_o_keptTold a_o_keptLast a_o_keptOften x_o_bodies a_o_kind x_o_traces a_o_traced a_o_holds a_o_size a_o_elements a_o_shifted, A_B dA a_o_tape 120 x_o_tape, A_B dA a_o_act 260 o_x_o_act, A_I dA a_o_with 260 o_x_o_with])) args s 0 0 A) 74 [(0, .ref a_o), (1, .int v1)] [] [O_Mo a_o x_o_code x_o_lamps x_o_at x_o_night x_o_spent x_o_rest x_o_shy a_o_had a_o_told a_o_barred a_o_cost a_o_last a_o_often x_o_hasBegun x_o_doneMany x_o_undoneMany a_o_changeOf a_o_changeAt a_o_before a_o_behind a_o_tape x_o_taped x_o_here x_o_fault x_o_open x_o_laid a_o_act a_o_with a_o_lineMany a_o_testEnd a_o_lineEnd a_o_facts a_o_pile x_o_hasLaw a_o_way a_o_bestWay x_o_bestMany a_o_wasHad a_o_wasLast x_o_wasAt x_o_wasNight x_o_hasImage x_o_keptLamps x_o_keptAt x_o_keptNight x_o_keptSpent a_o_keptHad a_o_keptTold a_o_keptLast a_o_keptOften x_o_bodies a_o_kind x_o_traces a_o_traced a_o_holds a_o_size a_o_elements a_o_shifted, A_B dA a_o_tape 120 x_o_tape, A_B dA a_o_act 260 x_o_act, A_I dA a_o_with 260 x_o_with] := by
  unfold f_Mo_figure_L74 at hf
  refine g_aload_n (pc' := 75) C 0 d_Mo_figure_74 rfl rfl ?_
  refine g_iconst (pc' := 76) (v := 1) C d_Mo_figure_75 rfl rfl ?_
  refine g_iload_n (pc' := 77) C 1 d_Mo_figure_76 rfl rfl ?_
  replace hf := g_bi hf; obtain ⟨⟨u13, u14, u15⟩, hc16, hf⟩ := hf
  dsimp only at hf
  refine g_callV (pc' := 80) (st1 := []) (ws1 := [O_Mo a_o x_o_code x_o_lamps x_o_at x_o_night x_o_spent x_o_rest x_o_shy a_o_had a_o_told a_o_barred a_o_cost a_o_last a_o_often x_o_hasBegun x_o_doneMany x_o_undoneMany a_o_changeOf a_o_changeAt a_o_before a_o_behind a_o_tape x_o_taped x_o_here x_o_fault x_o_open u13 a_o_act a_o_with a_o_lineMany a_o_testEnd a_o_lineEnd a_o_facts a_o_pile x_o_hasLaw a_o_way a_o_bestWay x_o_bestMany a_o_wasHad a_o_wasLast x_o_wasAt x_o_wasNight x_o_hasImage x_o_keptLamps x_o_keptAt x_o_keptNight x_o_keptSpent a_o_keptHad a_o_keptTold a_o_keptLast a_o_keptOften x_o_bodies a_o_kind x_o_traces a_o_traced a_o_holds a_o_size a_o_elements a_o_shifted, A_B dA a_o_tape 120 x_o_tape, A_B dA a_o_act 260 u14, A_I dA a_o_with 260 u15]) C (c_Mo_addStep (l := l) (D := D) (dA := dA) (a_o := a_o) (a_o_had := a_o_had) (a_o_told := a_o_told) (a_o_barred := a_o_barred) (a_o_cost := a_o_cost) (a_o_last := a_o_last) (a_o_often := a_o_often) (a_o_changeOf := a_o_changeOf) (a_o_changeAt := a_o_changeAt) (a_o_before := a_o_before) (a_o_behind := a_o_behind) (a_o_tape := a_o_tape) (a_o_act := a_o_act) (a_o_with := a_o_with) (a_o_lineMany := a_o_lineMany) (a_o_testEnd := a_o_testEnd) (a_o_lineEnd := a_o_lineEnd) (a_o_facts := a_o_facts) (a_o_pile := a_o_pile) (a_o_way := a_o_way) (a_o_bestWay := a_o_bestWay) (a_o_wasHad := a_o_wasHad) (a_o_wasLast := a_o_wasLast) (a_o_keptHad := a_o_keptHad) (a_o_keptTold := a_o_keptTold) (a_o_keptLast := a_o_keptLast) (a_o_keptOften := a_o_keptOften) (a_o_kind := a_o_kind) (a_o_traced := a_o_traced) (a_o_holds := a_o_holds) (a_o_size := a_o_size) (a_o_elements := a_o_elements) (a_o_shifted := a_o_shifted) (x_o_code := x_o_code) (x_o_lamps := x_o_lamps) (x_o_at := x_o_at) (x_o_night := x_o_night) (x_o_spent := x_o_spent) (x_o_rest := x_o_rest) (x_o_shy := x_o_shy) (x_o_hasBegun := x_o_hasBegun) (x_o_doneMany := x_o_doneMany) (x_o_undoneMany := x_o_undoneMany) (x_o_taped := x_o_taped) (x_o_here := x_o_here) (x_o_fault := x_o_fault) (x_o_open := x_o_open) (x_o_hasLaw := x_o_hasLaw) (x_o_bestMany := x_o_bestMany) (x_o_wasAt := x_o_wasAt) (x_o_wasNight := x_o_wasNight) (x_o_hasImage := x_o_hasImage) (x_o_keptLamps := x_o_keptLamps) (x_o_keptAt := x_o_keptAt) (x_o_keptNight := x_o_keptNight) (x_o_keptSpent := x_o_keptSpent) (x_o_bodies := x_o_bodies) (x_o_traces := x_o_traces)   hc16) yy_Mo_addStep kf_Mo rfl mw_5_201 d_Mo_figure_77 rfl [] rfl rfl (Nat.le_of_ble_eq_true rfl) ⟨Nat.le_of_ble_eq_true rfl, Nat.le_of_ble_eq_true rfl⟩ rfl rfl (Nat.zero_le _) (Nat.zero_le _) 0 rfl [0, 2, 3] rfl (by decide +kernel) rfl (g_lay_sel _ _ _ _ [(0, true), (1, false), (1, true), (2, true)] (by decide +kernel) rfl (by decide +kernel) rfl rfl) rfl ?_
  replace hf := g_o2 hf; obtain ⟨h1, hf⟩ := hf; subst h1
  replace hf := g_o2 hf; obtain ⟨h1, hf⟩ := hf; subst h1
  replace hf := g_o2 hf; obtain ⟨h1, hf⟩ := hf; subst h1
  replace hf := g_o2 hf; obtain ⟨h1, hf⟩ := hf; subst h1
  replace hf := Option.some.inj hf; subst hf
  exact g_vret C d_Mo_figure_80 () rfl
def f_Mo_figure_L70   (v1 : Int32) (x_o_here : Int32) (x_o_fault : Int32) (x_o_laid : Int32) (x_o_act : Nat → Int32) (x_o_with : Nat → Int32) : Option (Int32 × Int32 × Int32 × (Nat → Int32) × (Nat → Int32)) :=
  (f_Mo_faulty  x_o_here x_o_fault).bind fun u11 =>
  f_Mo_figure_L74  v1 x_o_here u11 x_o_laid x_o_act x_o_with
set_option maxRecDepth 20000 in
theorem w_Mo_figure_L70 {p : Program} {l : Launch} {e : Env} {s : State} {m : MethodId} {args : Array Value} {below : List Frame} {meth : Method} {c : Code} {D : va_G} {dA : Nat → ClassId} {A : Nat → Prop} (C : GC p s m args meth c prog_13_method_30_code 3 "OneLampModel" none D dA A) {a_o a_o_had a_o_told a_o_barred a_o_cost a_o_last a_o_often a_o_changeOf a_o_changeAt a_o_before a_o_behind a_o_tape a_o_act a_o_with a_o_lineMany a_o_testEnd a_o_lineEnd a_o_facts a_o_pile a_o_way a_o_bestWay a_o_wasHad a_o_wasLast a_o_keptHad a_o_keptTold a_o_keptLast a_o_keptOften a_o_kind a_o_traced a_o_holds a_o_size a_o_elements a_o_shifted : Nat} {x_o_code : Int32} {x_o_lamps : Int32} {x_o_at : Int32} {x_o_night : Int32} {x_o_spent : Int32} {x_o_rest : Int32} {x_o_shy : Int32} {x_o_hasBegun : Bool} {x_o_doneMany : Int32} {x_o_undoneMany : Int32} {x_o_taped : Int32} {x_o_open : Int32} {x_o_hasLaw : Bool} {x_o_bestMany : Int32} {x_o_wasAt : Int32} {x_o_wasNight : Int32} {x_o_hasImage : Bool} {x_o_keptLamps : Int32} {x_o_keptAt : Int32} {x_o_keptNight : Int32} {x_o_keptSpent : Int32} {x_o_bodies : Int32} {x_o_traces : Int32} {x_o_tape : Nat → Int32} {o_x_o_here : Int32} {o_x_o_fault : Int32} {o_x_o_laid : Int32} {o_x_o_act : Nat → Int32} {o_x_o_with : Nat → Int32}    (v1 : Int32) (x_o_here : Int32) (x_o_fault : Int32) (x_o_laid : Int32) (x_o_act : Nat → Int32) (x_o_with : Nat → Int32) (hf : f_Mo_figure_L70   v1 x_o_here x_o_fault x_o_laid x_o_act x_o_with = some (o_x_o_here, o_x_o_fault, o_x_o_laid, o_x_o_act, o_x_o_with)) : GG p l e { frames := 1, cells := 0, slots := 0, locals := 22 } s m args below meth c 3 D A 0 0 (MQ below (cQ D A none (fun _ : Unit => [O_Mo a_o x_o_code x_o_lamps x_o_at x_o_night x_o_spent x_o_rest x_o_shy a_o_had a_o_told a_o_barred a_o_cost a_o_last a_o_often x_o_hasBegun x_o_doneMany x_o_undoneMany a_o_changeOf a_o_changeAt a_o_before a_o_behind a_o_tape x_o_taped o_x_o_here o_x_o_fault x_o_open o_x_o_laid a_o_act a_o_with a_o_lineMany a_o_testEnd a_o_lineEnd a_o_facts a_o_pile x_o_hasLaw a_o_way a_o_bestWay x_o_bestMany a_o_wasHad a_o_wasLast x_o_wasAt x_o_wasNight x_o_hasImage x_o_keptLamps x_o_keptAt x_o_keptNight x_o_keptSpent a_o_keptHad a_o_keptTold a_o_keptLast a_o_keptOften x_o_bodies a_o_kind x_o_traces a_o_traced a_o_holds a_o_size a_o_elements a_o_shifted, A_B dA a_o_tape 120 x_o_tape, A_B dA a_o_act 260 o_x_o_act, A_I dA a_o_with 260 o_x_o_with])) args s 0 0 A) 70 [(0, .ref a_o), (1, .int v1)] [] [O_Mo a_o x_o_code x_o_lamps x_o_at x_o_night x_o_spent x_o_rest x_o_shy a_o_had a_o_told a_o_barred a_o_cost a_o_last a_o_often x_o_hasBegun x_o_doneMany x_o_undoneMany a_o_changeOf a_o_changeAt a_o_before a_o_behind a_o_tape x_o_taped x_o_here x_o_fault x_o_open x_o_laid a_o_act a_o_with a_o_lineMany a_o_testEnd a_o_lineEnd a_o_facts a_o_pile x_o_hasLaw a_o_way a_o_bestWay x_o_bestMany a_o_wasHad a_o_wasLast x_o_wasAt x_o_wasNight x_o_hasImage x_o_keptLamps x_o_keptAt x_o_keptNight x_o_keptSpent a_o_keptHad a_o_keptTold a_o_keptLast a_o_keptOften x_o_bodies a_o_kind x_o_traces a_o_traced a_o_holds a_o_size a_o_elements a_o_shifted, A_B dA a_o_tape 120 x_o_tape, A_B dA a_o_act 260 x_o_act, A_I dA a_o_with 260 x_o_with] := by
  unfold f_Mo_figure_L70 at hf
  refine g_aload_n (pc' := 71) C 0 d_Mo_figure_70 rfl rfl ?_
  replace hf := g_bi hf; obtain ⟨u11, hc12, hf⟩ := hf
  refine g_callV (pc' := 74) (st1 := []) (ws1 := [O_Mo a_o x_o_code x_o_lamps x_o_at x_o_night x_o_spent x_o_rest x_o_shy a_o_had a_o_told a_o_barred a_o_cost a_o_last a_o_often x_o_hasBegun x_o_doneMany x_o_undoneMany a_o_changeOf a_o_changeAt a_o_before a_o_behind a_o_tape x_o_taped x_o_here u11 x_o_open x_o_laid a_o_act a_o_with a_o_lineMany a_o_testEnd a_o_lineEnd a_o_facts a_o_pile x_o_hasLaw a_o_way a_o_bestWay x_o_bestMany a_o_wasHad a_o_wasLast x_o_wasAt x_o_wasNight x_o_hasImage x_o_keptLamps x_o_keptAt x_o_keptNight x_o_keptSpent a_o_keptHad a_o_keptTold a_o_keptLast a_o_keptOften x_o_bodies a_o_kind x_o_traces a_o_traced a_o_holds a_o_size a_o_elements a_o_shifted, A_B dA a_o_tape 120 x_o_tape, A_B dA a_o_act 260 x_o_act, A_I dA a_o_with 260 x_o_with]) C (c_Mo_faulty (l := l) (D := D) (dA := dA) (a_o := a_o) (a_o_had := a_o_had) (a_o_told := a_o_told) (a_o_barred := a_o_barred) (a_o_cost := a_o_cost) (a_o_last := a_o_last) (a_o_often := a_o_often) (a_o_changeOf := a_o_changeOf) (a_o_changeAt := a_o_changeAt) (a_o_before := a_o_before) (a_o_behind := a_o_behind) (a_o_tape := a_o_tape) (a_o_act := a_o_act) (a_o_with := a_o_with) (a_o_lineMany := a_o_lineMany) (a_o_testEnd := a_o_testEnd) (a_o_lineEnd := a_o_lineEnd) (a_o_facts := a_o_facts) (a_o_pile := a_o_pile) (a_o_way := a_o_way) (a_o_bestWay := a_o_bestWay) (a_o_wasHad := a_o_wasHad) (a_o_wasLast := a_o_wasLast) (a_o_keptHad := a_o_keptHad) (a_o_keptTold := a_o_keptTold) (a_o_keptLast := a_o_keptLast) (a_o_keptOften := a_o_keptOften) (a_o_kind := a_o_kind) (a_o_traced := a_o_traced) (a_o_holds := a_o_holds) (a_o_size := a_o_size) (a_o_elements := a_o_elements) (a_o_shifted := a_o_shifted) (x_o_code := x_o_code) (x_o_lamps := x_o_lamps) (x_o_at := x_o_at) (x_o_night := x_o_night) (x_o_spent := x_o_spent) (x_o_rest := x_o_rest) (x_o_shy := x_o_shy) (x_o_hasBegun := x_o_hasBegun) (x_o_doneMany := x_o_doneMany) (x_o_undoneMany := x_o_undoneMany) (x_o_taped := x_o_taped) (x_o_open := x_o_open) (x_o_laid := x_o_laid) (x_o_hasLaw := x_o_hasLaw) (x_o_bestMany := x_o_bestMany) (x_o_wasAt := x_o_wasAt) (x_o_wasNight := x_o_wasNight) (x_o_hasImage := x_o_hasImage) (x_o_keptLamps := x_o_keptLamps) (x_o_keptAt := x_o_keptAt) (x_o_keptNight := x_o_keptNight) (x_o_keptSpent := x_o_keptSpent) (x_o_bodies := x_o_bodies) (x_o_traces := x_o_traces)   hc12) yy_Mo_faulty kf_Mo rfl mw_5_209 d_Mo_figure_71 rfl [] rfl rfl (Nat.le_of_ble_eq_true rfl) ⟨Nat.le_of_ble_eq_true rfl, Nat.le_of_ble_eq_true rfl⟩ rfl rfl (Nat.zero_le _) (Nat.zero_le _) 0 rfl [0] rfl (by decide +kernel) rfl (g_lay_sel _ _ _ _ [(0, true), (1, false), (2, false), (3, false)] (by decide +kernel) rfl (by decide +kernel) rfl rfl) rfl ?_
  exact w_Mo_figure_L74 (a_o := a_o) (a_o_had := a_o_had) (a_o_told := a_o_told) (a_o_barred := a_o_barred) (a_o_cost := a_o_cost) (a_o_last := a_o_last) (a_o_often := a_o_often) (a_o_changeOf := a_o_changeOf) (a_o_changeAt := a_o_changeAt) (a_o_before := a_o_before) (a_o_behind := a_o_behind) (a_o_tape := a_o_tape) (a_o_act := a_o_act) (a_o_with := a_o_with) (a_o_lineMany := a_o_lineMany) (a_o_testEnd := a_o_testEnd) (a_o_lineEnd := a_o_lineEnd) (a_o_facts := a_o_facts) (a_o_pile := a_o_pile) (a_o_way := a_o_way) (a_o_bestWay := a_o_bestWay) (a_o_wasHad := a_o_wasHad) (a_o_wasLast := a_o_wasLast) (a_o_keptHad := a_o_keptHad) (a_o_keptTold := a_o_keptTold) (a_o_keptLast := a_o_keptLast) (a_o_keptOften := a_o_keptOften) (a_o_kind := a_o_kind) (a_o_traced := a_o_traced) (a_o_holds := a_o_holds) (a_o_size := a_o_size) (a_o_elements := a_o_elements) (a_o_shifted := a_o_shifted) C   v1 x_o_here u11 x_o_laid x_o_act x_o_with hf
def f_Mo_figure_L52   (v1 : Int32) (v2 : Int32) (x_o_taped : Int32) (x_o_here : Int32) (x_o_fault : Int32) (x_o_laid : Int32) (x_o_tape : Nat → Int32) (x_o_act : Nat → Int32) (x_o_with : Nat → Int32) : Option (Int32 × Int32 × Int32 × (Nat → Int32) × (Nat → Int32)) :=
  if v2 = 0 then
    (f_Mo_figure_L70  v1 x_o_here x_o_fault x_o_laid x_o_act x_o_with)
  else
    ((f_Mo_look  x_o_taped x_o_here x_o_tape).bind fun r7 =>
    (f_Mo_in  r7 (48 : Int32) (57 : Int32)).bind fun r9 =>
    if r9 = true then
      (f_Mo_figure_L70  v1 x_o_here x_o_fault x_o_laid x_o_act x_o_with)
    else
      (f_Mo_figure_L74  v1 x_o_here x_o_fault x_o_laid x_o_act x_o_with))
set_option maxRecDepth 20000 in
theorem w_Mo_figure_L52 {p : Program} {l : Launch} {e : Env} {s : State} {m : MethodId} {args : Array Value} {below : List Frame} {meth : Method} {c : Code} {D : va_G} {dA : Nat → ClassId} {A : Nat → Prop} (C : GC p s m args meth c prog_13_method_30_code 3 "OneLampModel" none D dA A) {a_o a_o_had a_o_told a_o_barred a_o_cost a_o_last a_o_often a_o_changeOf a_o_changeAt a_o_before a_o_behind a_o_tape a_o_act a_o_with a_o_lineMany a_o_testEnd a_o_lineEnd a_o_facts a_o_pile a_o_way a_o_bestWay a_o_wasHad a_o_wasLast a_o_keptHad a_o_keptTold a_o_keptLast a_o_keptOften a_o_kind a_o_traced a_o_holds a_o_size a_o_elements a_o_shifted : Nat} {x_o_code : Int32} {x_o_lamps : Int32} {x_o_at : Int32} {x_o_night : Int32} {x_o_spent : Int32} {x_o_rest : Int32} {x_o_shy : Int32} {x_o_hasBegun : Bool} {x_o_doneMany : Int32} {x_o_undoneMany : Int32} {x_o_open : Int32} {x_o_hasLaw : Bool} {x_o_bestMany : Int32} {x_o_wasAt : Int32} {x_o_wasNight : Int32} {x_o_hasImage : Bool} {x_o_keptLamps : Int32} {x_o_keptAt : Int32} {x_o_keptNight : Int32} {x_o_keptSpent : Int32} {x_o_bodies : Int32} {x_o_traces : Int32} {o_x_o_here : Int32} {o_x_o_fault : Int32} {o_x_o_laid : Int32} {o_x_o_act : Nat → Int32} {o_x_o_with : Nat → Int32}    (v1 : Int32) (v2 : Int32) (x_o_taped : Int32) (x_o_here : Int32) (x_o_fault : Int32) (x_o_laid : Int32) (x_o_tape : Nat → Int32) (x_o_act : Nat → Int32) (x_o_with : Nat → Int32) (hf : f_Mo_figure_L52   v1 v2 x_o_taped x_o_here x_o_fault x_o_laid x_o_tape x_o_act x_o_with = some (o_x_o_here, o_x_o_fault, o_x_o_laid, o_x_o_act, o_x_o_with)) : GG p l e { frames := 1, cells := 0, slots := 0, locals := 22 } s m args below meth c 3 D A 0 0 (MQ below (cQ D A none (fun _ : Unit => [O_Mo a_o x_o_code x_o_lamps x_o_at x_o_night x_o_spent x_o_rest x_o_shy a_o_had a_o_told a_o_barred a_o_cost a_o_last a_o_often x_o_hasBegun x_o_doneMany x_o_undoneMany a_o_changeOf a_o_changeAt a_o_before a_o_behind a_o_tape x_o_taped o_x_o_here o_x_o_fault x_o_open o_x_o_laid a_o_act a_o_with a_o_lineMany a_o_testEnd a_o_lineEnd a_o_facts a_o_pile x_o_hasLaw a_o_way a_o_bestWay x_o_bestMany a_o_wasHad a_o_wasLast x_o_wasAt x_o_wasNight x_o_hasImage x_o_keptLamps x_o_keptAt x_o_keptNight x_o_keptSpent a_o_keptHad a_o_keptTold a_o_keptLast a_o_keptOften x_o_bodies a_o_kind x_o_traces a_o_traced a_o_holds a_o_size a_o_elements a_o_shifted, A_B dA a_o_tape 120 x_o_tape, A_B dA a_o_act 260 o_x_o_act, A_I dA a_o_with 260 o_x_o_with])) args s 0 0 A) 52 [(0, .ref a_o), (1, .int v1), (2, .int v2)] [] [O_Mo a_o x_o_code x_o_lamps x_o_at x_o_night x_o_spent x_o_rest x_o_shy a_o_had a_o_told a_o_barred a_o_cost a_o_last a_o_often x_o_hasBegun x_o_doneMany x_o_undoneMany a_o_changeOf a_o_changeAt a_o_before a_o_behind a_o_tape x_o_taped x_o_here x_o_fault x_o_open x_o_laid a_o_act a_o_with a_o_lineMany a_o_testEnd a_o_lineEnd a_o_facts a_o_pile x_o_hasLaw a_o_way a_o_bestWay x_o_bestMany a_o_wasHad a_o_wasLast x_o_wasAt x_o_wasNight x_o_hasImage x_o_keptLamps x_o_keptAt x_o_keptNight x_o_keptSpent a_o_keptHad a_o_keptTold a_o_keptLast a_o_keptOften x_o_bodies a_o_kind x_o_traces a_o_traced a_o_holds a_o_size a_o_elements a_o_shifted, A_B dA a_o_tape 120 x_o_tape, A_B dA a_o_act 260 x_o_act, A_I dA a_o_with 260 x_o_with] := by
  unfold f_Mo_figure_L52 at hf
  refine g_iload_n (pc' := 53) C 2 d_Mo_figure_52 rfl rfl ?_
  refine g_if_eq (pc' := 56) (tgt := 70) C d_Mo_figure_53 rfl rfl (fun h => ?_) (fun h => ?_)
  · replace hf := g_ip h hf
    refine g_lv (lv' := [(0, .ref a_o), (1, .int v1)]) [0, 1] rfl ?_
    exact w_Mo_figure_L70 (a_o := a_o) (a_o_had := a_o_had) (a_o_told := a_o_told) (a_o_barred := a_o_barred) (a_o_cost := a_o_cost) (a_o_last := a_o_last) (a_o_often := a_o_often) (a_o_changeOf := a_o_changeOf) (a_o_changeAt := a_o_changeAt) (a_o_before := a_o_before) (a_o_behind := a_o_behind) (a_o_tape := a_o_tape) (a_o_act := a_o_act) (a_o_with := a_o_with) (a_o_lineMany := a_o_lineMany) (a_o_testEnd := a_o_testEnd) (a_o_lineEnd := a_o_lineEnd) (a_o_facts := a_o_facts) (a_o_pile := a_o_pile) (a_o_way := a_o_way) (a_o_bestWay := a_o_bestWay) (a_o_wasHad := a_o_wasHad) (a_o_wasLast := a_o_wasLast) (a_o_keptHad := a_o_keptHad) (a_o_keptTold := a_o_keptTold) (a_o_keptLast := a_o_keptLast) (a_o_keptOften := a_o_keptOften) (a_o_kind := a_o_kind) (a_o_traced := a_o_traced) (a_o_holds := a_o_holds) (a_o_size := a_o_size) (a_o_elements := a_o_elements) (a_o_shifted := a_o_shifted) C   v1 x_o_here x_o_fault x_o_laid x_o_act x_o_with hf
  · replace hf := g_in h hf
    refine g_aload_n (pc' := 57) C 0 d_Mo_figure_56 rfl rfl ?_
    replace hf := g_bi hf; obtain ⟨r7, hc8, hf⟩ := hf
    refine g_callV (pc' := 60) (st1 := [.int r7]) (ws1 := [O_Mo a_o x_o_code x_o_lamps x_o_at x_o_night x_o_spent x_o_rest x_o_shy a_o_had a_o_told a_o_barred a_o_cost a_o_last a_o_often x_o_hasBegun x_o_doneMany x_o_undoneMany a_o_changeOf a_o_changeAt a_o_before a_o_behind a_o_tape x_o_taped x_o_here x_o_fault x_o_open x_o_laid a_o_act a_o_with a_o_lineMany a_o_testEnd a_o_lineEnd a_o_facts a_o_pile x_o_hasLaw a_o_way a_o_bestWay x_o_bestMany a_o_wasHad a_o_wasLast x_o_wasAt x_o_wasNight x_o_hasImage x_o_keptLamps x_o_keptAt x_o_keptNight x_o_keptSpent a_o_keptHad a_o_keptTold a_o_keptLast a_o_keptOften x_o_bodies a_o_kind x_o_traces a_o_traced a_o_holds a_o_size a_o_elements a_o_shifted, A_B dA a_o_tape 120 x_o_tape, A_B dA a_o_act 260 x_o_act, A_I dA a_o_with 260 x_o_with]) C (c_Mo_look (l := l) (D := D) (dA := dA) (a_o := a_o) (a_o_had := a_o_had) (a_o_told := a_o_told) (a_o_barred := a_o_barred) (a_o_cost := a_o_cost) (a_o_last := a_o_last) (a_o_often := a_o_often) (a_o_changeOf := a_o_changeOf) (a_o_changeAt := a_o_changeAt) (a_o_before := a_o_before) (a_o_behind := a_o_behind) (a_o_tape := a_o_tape) (a_o_act := a_o_act) (a_o_with := a_o_with) (a_o_lineMany := a_o_lineMany) (a_o_testEnd := a_o_testEnd) (a_o_lineEnd := a_o_lineEnd) (a_o_facts := a_o_facts) (a_o_pile := a_o_pile) (a_o_way := a_o_way) (a_o_bestWay := a_o_bestWay) (a_o_wasHad := a_o_wasHad) (a_o_wasLast := a_o_wasLast) (a_o_keptHad := a_o_keptHad) (a_o_keptTold := a_o_keptTold) (a_o_keptLast := a_o_keptLast) (a_o_keptOften := a_o_keptOften) (a_o_kind := a_o_kind) (a_o_traced := a_o_traced) (a_o_holds := a_o_holds) (a_o_size := a_o_size) (a_o_elements := a_o_elements) (a_o_shifted := a_o_shifted) (x_o_code := x_o_code) (x_o_lamps := x_o_lamps) (x_o_at := x_o_at) (x_o_night := x_o_night) (x_o_spent := x_o_spent) (x_o_rest := x_o_rest) (x_o_shy := x_o_shy) (x_o_hasBegun := x_o_hasBegun) (x_o_doneMany := x_o_doneMany) (x_o_undoneMany := x_o_undoneMany) (x_o_fault := x_o_fault) (x_o_open := x_o_open) (x_o_laid := x_o_laid) (x_o_hasLaw := x_o_hasLaw) (x_o_bestMany := x_o_bestMany) (x_o_wasAt := x_o_wasAt) (x_o_wasNight := x_o_wasNight) (x_o_hasImage := x_o_hasImage) (x_o_keptLamps := x_o_keptLamps) (x_o_keptAt := x_o_keptAt) (x_o_keptNight := x_o_keptNight) (x_o_keptSpent := x_o_keptSpent) (x_o_bodies := x_o_bodies) (x_o_traces := x_o_traces)   hc8) yy_Mo_look kf_Mo rfl mw_5_194 d_Mo_figure_57 rfl [] rfl rfl (Nat.le_of_ble_eq_true rfl) ⟨Nat.le_of_ble_eq_true rfl, Nat.le_of_ble_eq_true rfl⟩ rfl rfl (Nat.zero_le _) (Nat.zero_le _) 0 rfl [0, 1] rfl (by decide +kernel) rfl (g_lay_sel _ _ _ _ [(0, true), (1, true), (2, false), (3, false)] (by decide +kernel) rfl (by decide +kernel) rfl rfl) rfl ?_
    refine g_bipush (pc' := 62) (v := 48) C d_Mo_figure_60 rfl rfl ?_
    refine g_bipush (pc' := 64) (v := 57) C d_Mo_figure_62 rfl rfl ?_
    replace hf := g_bi hf; obtain ⟨r9, hc10, hf⟩ := hf
    refine g_callS (pc' := 67) (st1 := [.int (b2i r9)]) (ws1 := [O_Mo a_o x_o_code x_o_lamps x_o_at x_o_night x_o_spent x_o_rest x_o_shy a_o_had a_o_told a_o_barred a_o_cost a_o_last a_o_often x_o_hasBegun x_o_doneMany x_o_undoneMany a_o_changeOf a_o_changeAt a_o_before a_o_behind a_o_tape x_o_taped x_o_here x_o_fault x_o_open x_o_laid a_o_act a_o_with a_o_lineMany a_o_testEnd a_o_lineEnd a_o_facts a_o_pile x_o_hasLaw a_o_way a_o_bestWay x_o_bestMany a_o_wasHad a_o_wasLast x_o_wasAt x_o_wasNight x_o_hasImage x_o_keptLamps x_o_keptAt x_o_keptNight x_o_keptSpent a_o_keptHad a_o_keptTold a_o_keptLast a_o_keptOften x_o_bodies a_o_kind x_o_traces a_o_traced a_o_holds a_o_size a_o_elements a_o_shifted, A_B dA a_o_tape 120 x_o_tape, A_B dA a_o_act 260 x_o_act, A_I dA a_o_with 260 x_o_with]) C (c_Mo_in (l := l) (D := D) (dA := dA)    hc10) yy_Mo_in mw_5_80 d_Mo_figure_64 rfl [] rfl rfl (Nat.le_of_ble_eq_true rfl) ⟨Nat.le_of_ble_eq_true rfl, Nat.le_of_ble_eq_true rfl⟩ rfl rfl (Nat.zero_le _) (Nat.zero_le _) [] rfl (by decide +kernel) rfl (g_lay_sel _ _ _ _ [(0, false), (1, false), (2, false), (3, false)] (by decide +kernel) rfl (by decide +kernel) rfl rfl) rfl ?_
    refine g_if_eqb (pc' := 70) (tgt := 74) C d_Mo_figure_67 rfl rfl (fun h => ?_) (fun h => ?_)
    · replace hf := g_bf h hf
      refine g_lv (lv' := [(0, .ref a_o), (1, .int v1)]) [0, 1] rfl ?_
      exact w_Mo_figure_L74 (a_o := a_o) (a_o_had := a_o_had) (a_o_told := a_o_told) (a_o_barred := a_o_barred) (a_o_cost := a_o_cost) (a_o_last := a_o_last) (a_o_often := a_o_often) (a_o_changeOf := a_o_changeOf) (a_o_changeAt := a_o_changeAt) (a_o_before := a_o_before) (a_o_behind := a_o_behind) (a_o_tape := a_o_tape) (a_o_act := a_o_act) (a_o_with := a_o_with) (a_o_lineMany := a_o_lineMany) (a_o_testEnd := a_o_testEnd) (a_o_lineEnd := a_o_lineEnd) (a_o_facts := a_o_facts) (a_o_pile := a_o_pile) (a_o_way := a_o_way) (a_o_bestWay := a_o_bestWay) (a_o_wasHad := a_o_wasHad) (a_o_wasLast := a_o_wasLast) (a_o_keptHad := a_o_keptHad) (a_o_keptTold := a_o_keptTold) (a_o_keptLast := a_o_keptLast) (a_o_keptOften := a_o_keptOften) (a_o_kind := a_o_kind) (a_o_traced := a_o_traced) (a_o_holds := a_o_holds) (a_o_size := a_o_size) (a_o_elements := a_o_elements) (a_o_shifted := a_o_shifted) C   v1 x_o_here x_o_fault x_o_laid x_o_act x_o_with hf
    · replace hf := g_bt h hf
      refine g_lv (lv' := [(0, .ref a_o), (1, .int v1)]) [0, 1] rfl ?_
      exact w_Mo_figure_L70 (a_o := a_o) (a_o_had := a_o_had) (a_o_told := a_o_told) (a_o_barred := a_o_barred) (a_o_cost := a_o_cost) (a_o_last := a_o_last) (a_o_often := a_o_often) (a_o_changeOf := a_o_changeOf) (a_o_changeAt := a_o_changeAt) (a_o_before := a_o_before) (a_o_behind := a_o_behind) (a_o_tape := a_o_tape) (a_o_act := a_o_act) (a_o_with := a_o_with) (a_o_lineMany := a_o_lineMany) (a_o_testEnd := a_o_testEnd) (a_o_lineEnd := a_o_lineEnd) (a_o_facts := a_o_facts) (a_o_pile := a_o_pile) (a_o_way := a_o_way) (a_o_bestWay := a_o_bestWay) (a_o_wasHad := a_o_wasHad) (a_o_wasLast := a_o_wasLast) (a_o_keptHad := a_o_keptHad) (a_o_keptTold := a_o_keptTold) (a_o_keptLast := a_o_keptLast) (a_o_keptOften := a_o_keptOften) (a_o_kind := a_o_kind) (a_o_traced := a_o_traced) (a_o_holds := a_o_holds) (a_o_size := a_o_size) (a_o_elements := a_o_elements) (a_o_shifted := a_o_shifted) C   v1 x_o_here x_o_fault x_o_laid x_o_act x_o_with hf
def f_Mo_figure_L4   : Nat → Int32 → Int32 → Int32 → Int32 → Int32 → Int32 → (Nat → Int32) → (Nat → Int32) → (Nat → Int32) → Option (Int32 × Int32 × Int32 × (Nat → Int32) × (Nat → Int32))
  | 0, _, _, _, _, _, _, _, _, _ => none
  | n + 1, v1, v2, x_o_taped, x_o_here, x_o_fault, x_o_laid, x_o_tape, x_o_act, x_o_with =>
    if (4 : Int32) ≤ v2 then
      (f_Mo_figure_L52  v1 v2 x_o_taped x_o_here x_o_fault x_o_laid x_o_tape x_o_act x_o_with)
    else
      ((f_Mo_look  x_o_taped x_o_here x_o_tape).bind fun r1 =>
      (f_Mo_in  r1 (48 : Int32) (57 : Int32)).bind fun r3 =>
      if r3 = true then
        ((f_Mo_look  x_o_taped x_o_here x_o_tape).bind fun r5 =>
        f_Mo_figure_L4  n ((((10 : Int32) * v1) + r5) - (48 : Int32)) (v2 + 1) x_o_taped (x_o_here + (1 : Int32)) x_o_fault x_o_laid x_o_tape x_o_act x_o_with)
      else
        (f_Mo_figure_L52  v1 v2 x_o_taped x_o_here x_o_fault x_o_laid x_o_tape x_o_act x_o_with))
set_option maxRecDepth 20000 in
theorem w_Mo_figure_L4 {p : Program} {l : Launch} {e : Env} {s : State} {m : MethodId} {args : Array Value} {below : List Frame} {meth : Method} {c : Code} {D : va_G} {dA : Nat → ClassId} {A : Nat → Prop} (C : GC p s m args meth c prog_13_method_30_code 3 "OneLampModel" none D dA A) {a_o a_o_had a_o_told a_o_barred a_o_cost a_o_last a_o_often a_o_changeOf a_o_changeAt a_o_before a_o_behind a_o_tape a_o_act a_o_with a_o_lineMany a_o_testEnd a_o_lineEnd a_o_facts a_o_pile a_o_way a_o_bestWay a_o_wasHad a_o_wasLast a_o_keptHad a_o_keptTold a_o_keptLast a_o_keptOften a_o_kind a_o_traced a_o_holds a_o_size a_o_elements a_o_shifted : Nat} {x_o_code : Int32} {x_o_lamps : Int32} {x_o_at : Int32} {x_o_night : Int32} {x_o_spent : Int32} {x_o_rest : Int32} {x_o_shy : Int32} {x_o_hasBegun : Bool} {x_o_doneMany : Int32} {x_o_undoneMany : Int32} {x_o_open : Int32} {x_o_hasLaw : Bool} {x_o_bestMany : Int32} {x_o_wasAt : Int32} {x_o_wasNight : Int32} {x_o_hasImage : Bool} {x_o_keptLamps : Int32} {x_o_keptAt : Int32} {x_o_keptNight : Int32} {x_o_keptSpent : Int32} {x_o_bodies : Int32} {x_o_traces : Int32} {o_x_o_here : Int32} {o_x_o_fault : Int32} {o_x_o_laid : Int32} {o_x_o_act : Nat → Int32} {o_x_o_with : Nat → Int32}    : ∀ (n : Nat) (v1 : Int32) (v2 : Int32) (x_o_taped : Int32) (x_o_here : Int32) (x_o_fault : Int32) (x_o_laid : Int32) (x_o_tape : Nat → Int32) (x_o_act : Nat → Int32) (x_o_with : Nat → Int32), f_Mo_figure_L4   n v1 v2 x_o_taped x_o_here x_o_fault x_o_laid x_o_tape x_o_act x_o_with = some (o_x_o_here, o_x_o_fault, o_x_o_laid, o_x_o_act, o_x_o_with) → GG p l e { frames := 1, cells := 0, slots := 0, locals := 22 } s m args below meth c 3 D A 0 0 (MQ below (cQ D A none (fun _ : Unit => [O_Mo a_o x_o_code x_o_lamps x_o_at x_o_night x_o_spent x_o_rest x_o_shy a_o_had a_o_told a_o_barred a_o_cost a_o_last a_o_often x_o_hasBegun x_o_doneMany x_o_undoneMany a_o_changeOf a_o_changeAt a_o_before a_o_behind a_o_tape x_o_taped o_x_o_here o_x_o_fault x_o_open o_x_o_laid a_o_act a_o_with a_o_lineMany a_o_testEnd a_o_lineEnd a_o_facts a_o_pile x_o_hasLaw a_o_way a_o_bestWay x_o_bestMany a_o_wasHad a_o_wasLast x_o_wasAt x_o_wasNight x_o_hasImage x_o_keptLamps x_o_keptAt x_o_keptNight x_o_keptSpent a_o_keptHad a_o_keptTold a_o_keptLast a_o_keptOften x_o_bodies a_o_kind x_o_traces a_o_traced a_o_holds a_o_size a_o_elements a_o_shifted, A_B dA a_o_tape 120 x_o_tape, A_B dA a_o_act 260 o_x_o_act, A_I dA a_o_with 260 o_x_o_with])) args s 0 0 A) 4 [(0, .ref a_o), (1, .int v1), (2, .int v2)] [] [O_Mo a_o x_o_code x_o_lamps x_o_at x_o_night x_o_spent x_o_rest x_o_shy a_o_had a_o_told a_o_barred a_o_cost a_o_last a_o_often x_o_hasBegun x_o_doneMany x_o_undoneMany a_o_changeOf a_o_changeAt a_o_before a_o_behind a_o_tape x_o_taped x_o_here x_o_fault x_o_open x_o_laid a_o_act a_o_with a_o_lineMany a_o_testEnd a_o_lineEnd a_o_facts a_o_pile x_o_hasLaw a_o_way a_o_bestWay x_o_bestMany a_o_wasHad a_o_wasLast x_o_wasAt x_o_wasNight x_o_hasImage x_o_keptLamps x_o_keptAt x_o_keptNight x_o_keptSpent a_o_keptHad a_o_keptTold a_o_keptLast a_o_keptOften x_o_bodies a_o_kind x_o_traces a_o_traced a_o_holds a_o_size a_o_elements a_o_shifted, A_B dA a_o_tape 120 x_o_tape, A_B dA a_o_act 260 x_o_act, A_I dA a_o_with 260 x_o_with] := by
  intro n
  induction n with
  | zero =>
    intro v1 v2 x_o_taped x_o_here x_o_fault x_o_laid x_o_tape x_o_act x_o_with hf
    cases hf
  | succ n ih =>
    intro v1 v2 x_o_taped x_o_here x_o_fault x_o_laid x_o_tape x_o_act x_o_with hf
    unfold f_Mo_figure_L4 at hf
    refine g_iload_n (pc' := 5) C 2 d_Mo_figure_4 rfl rfl ?_
    refine g_iconst (pc' := 6) (v := 4) C d_Mo_figure_5 rfl rfl ?_
    refine g_icmp_ge (pc' := 9) (tgt := 52) C d_Mo_figure_6 rfl rfl (fun h => ?_) (fun h => ?_)
    · replace hf := g_ip h hf
      exact w_Mo_figure_L52 (a_o := a_o) (a_o_had := a_o_had) (a_o_told := a_o_told) (a_o_barred := a_o_barred) (a_o_cost := a_o_cost) (a_o_last := a_o_last) (a_o_often := a_o_often) (a_o_changeOf := a_o_changeOf) (a_o_changeAt := a_o_changeAt) (a_o_before := a_o_before) (a_o_behind := a_o_behind) (a_o_tape := a_o_tape) (a_o_act := a_o_act) (a_o_with := a_o_with) (a_o_lineMany := a_o_lineMany) (a_o_testEnd := a_o_testEnd) (a_o_lineEnd := a_o_lineEnd) (a_o_facts := a_o_facts) (a_o_pile := a_o_pile) (a_o_way := a_o_way) (a_o_bestWay := a_o_bestWay) (a_o_wasHad := a_o_wasHad) (a_o_wasLast := a_o_wasLast) (a_o_keptHad := a_o_keptHad) (a_o_keptTold := a_o_keptTold) (a_o_keptLast := a_o_keptLast) (a_o_keptOften := a_o_keptOften) (a_o_kind := a_o_kind) (a_o_traced := a_o_traced) (a_o_holds := a_o_holds) (a_o_size := a_o_size) (a_o_elements := a_o_elements) (a_o_shifted := a_o_shifted) C   v1 v2 x_o_taped x_o_here x_o_fault x_o_laid x_o_tape x_o_act x_o_with hf
    · replace hf := g_in h hf
      refine g_aload_n (pc' := 10) C 0 d_Mo_figure_9 rfl rfl ?_
      replace hf := g_bi hf; obtain ⟨r1, hc2, hf⟩ := hf
      refine g_callV (pc' := 13) (st1 := [.int r1]) (ws1 := [O_Mo a_o x_o_code x_o_lamps x_o_at x_o_night x_o_spent x_o_rest x_o_shy a_o_had a_o_told a_o_barred a_o_cost a_o_last a_o_often x_o_hasBegun x_o_doneMany x_o_undoneMany a_o_changeOf a_o_changeAt a_o_before a_o_behind a_o_tape x_o_taped x_o_here x_o_fault x_o_open x_o_laid a_o_act a_o_with a_o_lineMany a_o_testEnd a_o_lineEnd a_o_facts a_o_pile x_o_hasLaw a_o_way a_o_bestWay x_o_bestMany a_o_wasHad a_o_wasLast x_o_wasAt x_o_wasNight x_o_hasImage x_o_keptLamps x_o_keptAt x_o_keptNight x_o_keptSpent a_o_keptHad a_o_keptTold a_o_keptLast a_o_keptOften x_o_bodies a_o_kind x_o_traces a_o_traced a_o_holds a_o_size a_o_elements a_o_shifted, A_B dA a_o_tape 120 x_o_tape, A_B dA a_o_act 260 x_o_act, A_I dA a_o_with 260 x_o_with]) C (c_Mo_look (l := l) (D := D) (dA := dA) (a_o := a_o) (a_o_had := a_o_had) (a_o_told := a_o_told) (a_o_barred := a_o_barred) (a_o_cost := a_o_cost) (a_o_last := a_o_last) (a_o_often := a_o_often) (a_o_changeOf := a_o_changeOf) (a_o_changeAt := a_o_changeAt) (a_o_before := a_o_before) (a_o_behind := a_o_behind) (a_o_tape := a_o_tape) (a_o_act := a_o_act) (a_o_with := a_o_with) (a_o_lineMany := a_o_lineMany) (a_o_testEnd := a_o_testEnd) (a_o_lineEnd := a_o_lineEnd) (a_o_facts := a_o_facts) (a_o_pile := a_o_pile) (a_o_way := a_o_way) (a_o_bestWay := a_o_bestWay) (a_o_wasHad := a_o_wasHad) (a_o_wasLast := a_o_wasLast) (a_o_keptHad := a_o_keptHad) (a_o_keptTold := a_o_keptTold) (a_o_keptLast := a_o_keptLast) (a_o_keptOften := a_o_keptOften) (a_o_kind := a_o_kind) (a_o_traced := a_o_traced) (a_o_holds := a_o_holds) (a_o_size := a_o_size) (a_o_elements := a_o_elements) (a_o_shifted := a_o_shifted) (x_o_code := x_o_code) (x_o_lamps := x_o_lamps) (x_o_at := x_o_at) (x_o_night := x_o_night) (x_o_spent := x_o_spent) (x_o_rest := x_o_rest) (x_o_shy := x_o_shy) (x_o_hasBegun := x_o_hasBegun) (x_o_doneMany := x_o_doneMany) (x_o_undoneMany := x_o_undoneMany) (x_o_fault := x_o_fault) (x_o_open := x_o_open) (x_o_laid := x_o_laid) (x_o_hasLaw := x_o_hasLaw) (x_o_bestMany := x_o_bestMany) (x_o_wasAt := x_o_wasAt) (x_o_wasNight := x_o_wasNight) (x_o_hasImage := x_o_hasImage) (x_o_keptLamps := x_o_keptLamps) (x_o_keptAt := x_o_keptAt) (x_o_keptNight := x_o_keptNight) (x_o_keptSpent := x_o_keptSpent) (x_o_bodies := x_o_bodies) (x_o_traces := x_o_traces)   hc2) yy_Mo_look kf_Mo rfl mw_5_194 d_Mo_figure_10 rfl [] rfl rfl (Nat.le_of_ble_eq_true rfl) ⟨Nat.le_of_ble_eq_true rfl, Nat.le_of_ble_eq_true rfl⟩ rfl rfl (Nat.zero_le _) (Nat.zero_le _) 0 rfl [0, 1] rfl (by decide +kernel) rfl (g_lay_sel _ _ _ _ [(0, true), (1, true), (2, false), (3, false)] (by decide +kernel) rfl (by decide +kernel) rfl rfl) rfl ?_
      refine g_bipush (pc' := 15) (v := 48) C d_Mo_figure_13 rfl rfl ?_
      refine g_bipush (pc' := 17) (v := 57) C d_Mo_figure_15 rfl rfl ?_
      replace hf := g_bi hf; obtain ⟨r3, hc4, hf⟩ := hf
      refine g_callS (pc' := 20) (st1 := [.int (b2i r3)]) (ws1 := [O_Mo a_o x_o_code x_o_lamps x_o_at x_o_night x_o_spent x_o_rest x_o_shy a_o_had a_o_told a_o_barred a_o_cost a_o_last a_o_often x_o_hasBegun x_o_doneMany x_o_undoneMany a_o_changeOf a_o_changeAt a_o_before a_o_behind a_o_tape x_o_taped x_o_here x_o_fault x_o_open x_o_laid a_o_act a_o_with a_o_lineMany a_o_testEnd a_o_lineEnd a_o_facts a_o_pile x_o_hasLaw a_o_way a_o_bestWay x_o_bestMany a_o_wasHad a_o_wasLast x_o_wasAt x_o_wasNight x_o_hasImage x_o_keptLamps x_o_keptAt x_o_keptNight x_o_keptSpent a_o_keptHad a_o_keptTold a_o_keptLast a_o_keptOften x_o_bodies a_o_kind x_o_traces a_o_traced a_o_holds a_o_size a_o_elements a_o_shifted, A_B dA a_o_tape 120 x_o_tape, A_B dA a_o_act 260 x_o_act, A_I dA a_o_with 260 x_o_with]) C (c_Mo_in (l := l) (D := D) (dA := dA)    hc4) yy_Mo_in mw_5_80 d_Mo_figure_17 rfl [] rfl rfl (Nat.le_of_ble_eq_true rfl) ⟨Nat.le_of_ble_eq_true rfl, Nat.le_of_ble_eq_true rfl⟩ rfl rfl (Nat.zero_le _) (Nat.zero_le _) [] rfl (by decide +kernel) rfl (g_lay_sel _ _ _ _ [(0, false), (1, false), (2, false), (3, false)] (by decide +kernel) rfl (by decide +kernel) rfl rfl) rfl ?_
      refine g_if_eqb (pc' := 23) (tgt := 52) C d_Mo_figure_20 rfl rfl (fun h => ?_) (fun h => ?_)
      · replace hf := g_bf h hf
        exact w_Mo_figure_L52 (a_o := a_o) (a_o_had := a_o_had) (a_o_told := a_o_told) (a_o_barred := a_o_barred) (a_o_cost := a_o_cost) (a_o_last := a_o_last) (a_o_often := a_o_often) (a_o_changeOf := a_o_changeOf) (a_o_changeAt := a_o_changeAt) (a_o_before := a_o_before) (a_o_behind := a_o_behind) (a_o_tape := a_o_tape) (a_o_act := a_o_act) (a_o_with := a_o_with) (a_o_lineMany := a_o_lineMany) (a_o_testEnd := a_o_testEnd) (a_o_lineEnd := a_o_lineEnd) (a_o_facts := a_o_facts) (a_o_pile := a_o_pile) (a_o_way := a_o_way) (a_o_bestWay := a_o_bestWay) (a_o_wasHad := a_o_wasHad) (a_o_wasLast := a_o_wasLast) (a_o_keptHad := a_o_keptHad) (a_o_keptTold := a_o_keptTold) (a_o_keptLast := a_o_keptLast) (a_o_keptOften := a_o_keptOften) (a_o_kind := a_o_kind) (a_o_traced := a_o_traced) (a_o_holds := a_o_holds) (a_o_size := a_o_size) (a_o_elements := a_o_elements) (a_o_shifted := a_o_shifted) C   v1 v2 x_o_taped x_o_here x_o_fault x_o_laid x_o_tape x_o_act x_o_with hf
      · replace hf := g_bt h hf
        refine g_bipush (pc' := 25) (v := 10) C d_Mo_figure_23 rfl rfl ?_
        refine g_iload_n (pc' := 26) C 1 d_Mo_figure_25 rfl rfl ?_
        refine g_imul (pc' := 27) C d_Mo_figure_26 rfl ?_
        refine g_aload_n (pc' := 28) C 0 d_Mo_figure_27 rfl rfl ?_
        replace hf := g_bi hf; obtain ⟨r5, hc6, hf⟩ := hf
        refine g_callV (pc' := 31) (st1 := [.int r5, .int ((10 : Int32) * v1)]) (ws1 := [O_Mo a_o x_o_code x_o_lamps x_o_at x_o_night x_o_spent x_o_rest x_o_shy a_o_had a_o_told a_o_barred a_o_cost a_o_last a_o_often x_o_hasBegun x_o_doneMany x_o_undoneMany a_o_changeOf a_o_changeAt a_o_before a_o_behind a_o_tape x_o_taped x_o_here x_o_fault x_o_open x_o_laid a_o_act a_o_with a_o_lineMany a_o_testEnd a_o_lineEnd a_o_facts a_o_pile x_o_hasLaw a_o_way a_o_bestWay x_o_bestMany a_o_wasHad a_o_wasLast x_o_wasAt x_o_wasNight x_o_hasImage x_o_keptLamps x_o_keptAt x_o_keptNight x_o_keptSpent a_o_keptHad a_o_keptTold a_o_keptLast a_o_keptOften x_o_bodies a_o_kind x_o_traces a_o_traced a_o_holds a_o_size a_o_elements a_o_shifted, A_B dA a_o_tape 120 x_o_tape, A_B dA a_o_act 260 x_o_act, A_I dA a_o_with 260 x_o_with]) C (c_Mo_look (l := l) (D := D) (dA := dA) (a_o := a_o) (a_o_had := a_o_had) (a_o_told := a_o_told) (a_o_barred := a_o_barred) (a_o_cost := a_o_cost) (a_o_last := a_o_last) (a_o_often := a_o_often) (a_o_changeOf := a_o_changeOf) (a_o_changeAt := a_o_changeAt) (a_o_before := a_o_before) (a_o_behind := a_o_behind) (a_o_tape := a_o_tape) (a_o_act := a_o_act) (a_o_with := a_o_with) (a_o_lineMany := a_o_lineMany) (a_o_testEnd := a_o_testEnd) (a_o_lineEnd := a_o_lineEnd) (a_o_facts := a_o_facts) (a_o_pile := a_o_pile) (a_o_way := a_o_way) (a_o_bestWay := a_o_bestWay) (a_o_wasHad := a_o_wasHad) (a_o_wasLast := a_o_wasLast) (a_o_keptHad := a_o_keptHad) (a_o_keptTold := a_o_keptTold) (a_o_keptLast := a_o_keptLast) (a_o_keptOften := a_o_keptOften) (a_o_kind := a_o_kind) (a_o_traced := a_o_traced) (a_o_holds := a_o_holds) (a_o_size := a_o_size) (a_o_elements := a_o_elements) (a_o_shifted := a_o_shifted) (x_o_code := x_o_code) (x_o_lamps := x_o_lamps) (x_o_at := x_o_at) (x_o_night := x_o_night) (x_o_spent := x_o_spent) (x_o_rest := x_o_rest) (x_o_shy := x_o_shy) (x_o_hasBegun := x_o_hasBegun) (x_o_doneMany := x_o_doneMany) (x_o_undoneMany := x_o_undoneMany) (x_o_fault := x_o_fault) (x_o_open := x_o_open) (x_o_laid := x_o_laid) (x_o_hasLaw := x_o_hasLaw) (x_o_bestMany := x_o_bestMany) (x_o_wasAt := x_o_wasAt) (x_o_wasNight := x_o_wasNight) (x_o_hasImage := x_o_hasImage) (x_o_keptLamps := x_o_keptLamps) (x_o_keptAt := x_o_keptAt) (x_o_keptNight := x_o_keptNight) (x_o_keptSpent := x_o_keptSpent) (x_o_bodies := x_o_bodies) (x_o_traces := x_o_traces)   hc6) yy_Mo_look kf_Mo rfl mw_5_194 d_Mo_figure_28 rfl [.int ((10 : Int32) * v1)] rfl rfl (Nat.le_of_ble_eq_true rfl) ⟨Nat.le_of_ble_eq_true rfl, Nat.le_of_ble_eq_true rfl⟩ rfl rfl (Nat.zero_le _) (Nat.zero_le _) 0 rfl [0, 1] rfl (by decide +kernel) rfl (g_lay_sel _ _ _ _ [(0, true), (1, true), (2, false), (3, false)] (by decide +kernel) rfl (by decide +kernel) rfl rfl) rfl ?_
        refine g_iadd (pc' := 32) C d_Mo_figure_31 rfl ?_
        refine g_bipush (pc' := 34) (v := 48) C d_Mo_figure_32 rfl rfl ?_
        refine g_isub (pc' := 35) C d_Mo_figure_34 rfl ?_
        refine g_istore_n (pc' := 36) (lv' := [(1, .int ((((10 : Int32) * v1) + r5) - (48 : Int32))), (0, .ref a_o), (2, .int v2)]) C d_Mo_figure_35 rfl (by decide) rfl ?_
        refine g_iinc (pc' := 39) (j := 2) (v := (v2 + 1)) (lv' := [(2, .int (v2 + 1)), (1, .int ((((10 : Int32) * v1) + r5) - (48 : Int32))), (0, .ref a_o)]) C d_Mo_figure_36 rfl rfl rfl (by decide) rfl ?_
        refine g_aload_n (pc' := 40) C 2 d_Mo_figure_39 rfl rfl ?_
        refine g_dup (pc' := 41) C d_Mo_figure_40 rfl rfl ?_
        refine g_get (pc' := 44) C kf_Mo 22 mw_4_160 d_Mo_figure_41 rfl 0 rfl (by decide) rfl ?_
        refine g_iconst (pc' := 45) (v := 1) C d_Mo_figure_44 rfl rfl ?_
        refine g_iadd (pc' := 46) C d_Mo_figure_45 rfl ?_
        refine g_put (pc' := 49) (ws' := [O_Mo a_o x_o_code x_o_lamps x_o_at x_o_night x_o_spent x_o_rest x_o_shy a_o_had a_o_told a_o_barred a_o_cost a_o_last a_o_often x_o_hasBegun x_o_doneMany x_o_undoneMany a_o_changeOf a_o_changeAt a_o_before a_o_behind a_o_tape x_o_taped (x_o_here + (1 : Int32)) x_o_fault x_o_open x_o_laid a_o_act a_o_with a_o_lineMany a_o_testEnd a_o_lineEnd a_o_facts a_o_pile x_o_hasLaw a_o_way a_o_bestWay x_o_bestMany a_o_wasHad a_o_wasLast x_o_wasAt x_o_wasNight x_o_hasImage x_o_keptLamps x_o_keptAt x_o_keptNight x_o_keptSpent a_o_keptHad a_o_keptTold a_o_keptLast a_o_keptOften x_o_bodies a_o_kind x_o_traces a_o_traced a_o_holds a_o_size a_o_elements a_o_shifted, A_B dA a_o_tape 120 x_o_tape, A_B dA a_o_act 260 x_o_act, A_I dA a_o_with 260 x_o_with]) C kf_Mo 22 mw_4_160 d_Mo_figure_46 rfl 0 rfl (by decide) rfl rfl rfl (Nat.le_of_ble_eq_true rfl) rfl ?_
        refine g_goto (tgt := 4) C d_Mo_figure_49 rfl ?_
        refine g_lv (lv' := [(0, .ref a_o), (1, .int ((((10 : Int32) * v1) + r5) - (48 : Int32))), (2, .int (v2 + 1))]) [2, 1, 0] rfl ?_
        exact ih ((((10 : Int32) * v1) + r5) - (48 : Int32)) (v2 + 1) x_o_taped (x_o_here + (1 : Int32)) x_o_fault x_o_laid x_o_tape x_o_act x_o_with hf
def f_Mo_figure  (x_o_taped : Int32) (x_o_here : Int32) (x_o_fault : Int32) (x_o_laid : Int32) (x_o_tape : Nat → Int32) (x_o_act : Nat → Int32) (x_o_with : Nat → Int32) : Option (Int32 × Int32 × Int32 × (Nat → Int32) × (Nat → Int32)) :=
  f_Mo_figure_L4  3000 (0 : Int32) (0 : Int32) x_o_taped x_o_here x_o_fault x_o_laid x_o_tape x_o_act x_o_with
set_option maxRecDepth 20000 in
theorem c_Mo_figure {l : Launch} {D : va_G} {dA : Nat → ClassId} {a_o a_o_had a_o_told a_o_barred a_o_cost a_o_last a_o_often a_o_changeOf a_o_changeAt a_o_before a_o_behind a_o_tape a_o_act a_o_with a_o_lineMany a_o_testEnd a_o_lineEnd a_o_facts a_o_pile a_o_way a_o_bestWay a_o_wasHad a_o_wasLast a_o_keptHad a_o_keptTold a_o_keptLast a_o_keptOften a_o_kind a_o_traced a_o_holds a_o_size a_o_elements a_o_shifted : Nat} {x_o_code : Int32} {x_o_lamps : Int32} {x_o_at : Int32} {x_o_night : Int32} {x_o_spent : Int32} {x_o_rest : Int32} {x_o_shy : Int32} {x_o_hasBegun : Bool} {x_o_doneMany : Int32} {x_o_undoneMany : Int32} {x_o_open : Int32} {x_o_hasLaw : Bool} {x_o_bestMany : Int32} {x_o_wasAt : Int32} {x_o_wasNight : Int32} {x_o_hasImage : Bool} {x_o_keptLamps : Int32} {x_o_keptAt : Int32} {x_o_keptNight : Int32} {x_o_keptSpent : Int32} {x_o_bodies : Int32} {x_o_traces : Int32} {x_o_taped : Int32} {x_o_here : Int32} {x_o_fault : Int32} {x_o_laid : Int32} {x_o_tape : Nat → Int32} {x_o_act : Nat → Int32} {x_o_with : Nat → Int32} {o_x_o_here : Int32} {o_x_o_fault : Int32} {o_x_o_laid : Int32} {o_x_o_act : Nat → Int32} {o_x_o_with : Nat → Int32}   (hf : f_Mo_figure  x_o_taped x_o_here x_o_fault x_o_laid x_o_tape x_o_act x_o_with = some (o_x_o_here, o_x_o_fault, o_x_o_laid, o_x_o_act, o_x_o_with)) : CT l y_Mo_figure prog_13_method_30_code 3 none { frames := 1, cells := 0, slots := 0, locals := 22 } D dA [.ref a_o] [O_Mo a_o x_o_code x_o_lamps x_o_at x_o_night x_o_spent x_o_rest x_o_shy a_o_had a_o_told a_o_barred a_o_cost a_o_last a_o_often x_o_hasBegun x_o_doneMany x_o_undoneMany a_o_changeOf a_o_changeAt a_o_before a_o_behind a_o_tape x_o_taped x_o_here x_o_fault x_o_open x_o_laid a_o_act a_o_with a_o_lineMany a_o_testEnd a_o_lineEnd a_o_facts a_o_pile x_o_hasLaw a_o_way a_o_bestWay x_o_bestMany a_o_wasHad a_o_wasLast x_o_wasAt x_o_wasNight x_o_hasImage x_o_keptLamps x_o_keptAt x_o_keptNight x_o_keptSpent a_o_keptHad a_o_keptTold a_o_keptLast a_o_keptOften x_o_bodies a_o_kind x_o_traces a_o_traced a_o_holds a_o_size a_o_elements a_o_shifted, A_B dA a_o_tape 120 x_o_tape, A_B dA a_o_act 260 x_o_act, A_I dA a_o_with 260 x_o_with] none (fun _ : Unit => [O_Mo a_o x_o_code x_o_lamps x_o_at x_o_night x_o_spent x_o_rest x_o_shy a_o_had a_o_told a_o_barred a_o_cost a_o_last a_o_often x_o_hasBegun x_o_doneMany x_o_undoneMany a_o_changeOf a_o_changeAt a_o_before a_o_behind a_o_tape x_o_taped o_x_o_here o_x_o_fault x_o_open o_x_o_laid a_o_act a_o_with a_o_lineMany a_o_testEnd a_o_lineEnd a_o_facts a_o_pile x_o_hasLaw a_o_way a_o_bestWay x_o_bestMany a_o_wasHad a_o_wasLast x_o_wasAt x_o_wasNight x_o_hasImage x_o_keptLamps x_o_keptAt x_o_keptNight x_o_keptSpent a_o_keptHad a_o_keptTold a_o_keptLast a_o_keptOften x_o_bodies a_o_kind x_o_traces a_o_traced a_o_holds a_o_size a_o_elements a_o_shifted, A_B dA a_o_tape 120 x_o_tape, A_B dA a_o_act 260 o_x_o_act, A_I dA a_o_with 260 o_x_o_with]) := by
  refine ct_intro "OneLampModel" rfl (by decide +kernel) (Nat.le_of_ble_eq_true rfl) [(0, .ref a_o)] rfl (fun _ C => ?_)
  unfold f_Mo_figure at hf
  refine g_iconst (pc' := 1) (v := 0) C d_Mo_figure_0 rfl rfl ?_
  refine g_istore_n (pc' := 2) (lv' := [(1, .int 0), (0, .ref a_o)]) C d_Mo_figure_1 rfl (by decide) rfl ?_
  refine g_iconst (pc' := 3) (v := 0) C d_Mo_figure_2 rfl rfl ?_
  refine g_istore_n (pc' := 4) (lv' := [(2, .int 0), (1, .int 0), (0, .ref a_o)]) C d_Mo_figure_3 rfl (by decide) rfl ?_
  refine g_lv (lv' := [(0, .ref a_o), (1, .int (0 : Int32)), (2, .int (0 : Int32))]) [2, 1, 0] rfl ?_
  exact w_Mo_figure_L4 (a_o := a_o) (a_o_had := a_o_had) (a_o_told := a_o_told) (a_o_barred := a_o_barred) (a_o_cost := a_o_cost) (a_o_last := a_o_last) (a_o_often := a_o_often) (a_o_changeOf := a_o_changeOf) (a_o_changeAt := a_o_changeAt) (a_o_before := a_o_before) (a_o_behind := a_o_behind) (a_o_tape := a_o_tape) (a_o_act := a_o_act) (a_o_with := a_o_with) (a_o_lineMany := a_o_lineMany) (a_o_testEnd := a_o_testEnd) (a_o_lineEnd := a_o_lineEnd) (a_o_facts := a_o_facts) (a_o_pile := a_o_pile) (a_o_way := a_o_way) (a_o_bestWay := a_o_bestWay) (a_o_wasHad := a_o_wasHad) (a_o_wasLast := a_o_wasLast) (a_o_keptHad := a_o_keptHad) (a_o_keptTold := a_o_keptTold) (a_o_keptLast := a_o_keptLast) (a_o_keptOften := a_o_keptOften) (a_o_kind := a_o_kind) (a_o_traced := a_o_traced) (a_o_holds := a_o_holds) (a_o_size := a_o_size) (a_o_elements := a_o_elements) (a_o_shifted := a_o_shifted) C   3000 (0 : Int32) (0 : Int32) x_o_taped x_o_here x_o_fault x_o_laid x_o_tape x_o_act x_o_with hf
