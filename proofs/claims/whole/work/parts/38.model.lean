def y_Mo_plainLights : MethodName := ⟨"OneLampModel", "plainLights", "(II)I"⟩
theorem yy_Mo_plainLights : YV y_Mo_plainLights prog_13_method_80_code 3 (some .int) 2 := ⟨mw_6_153, mw_1_12, mw_6_152, tm_s (y := y_Mo_plainLights) (n := 58) (by decide +kernel), by decide +kernel, by decide +kernel, by decide +kernel⟩
theorem d_Mo_plainLights_0 : decode prog_13_method_80_code 0 = .ok (.aload_n 0, 1) := by decide +kernel
theorem d_Mo_plainLights_1 : decode prog_13_method_80_code 1 = .ok (.iconst 1, 1) := by decide +kernel
theorem d_Mo_plainLights_2 : decode prog_13_method_80_code 2 = .ok (.invokevirtual 354, 3) := by decide +kernel
theorem d_Mo_plainLights_5 : decode prog_13_method_80_code 5 = .ok (.iload_n 2, 1) := by decide +kernel
theorem d_Mo_plainLights_6 : decode prog_13_method_80_code 6 = .ok (.iload_n 1, 1) := by decide +kernel
theorem d_Mo_plainLights_7 : decode prog_13_method_80_code 7 = .ok (.iadd, 1) := by decide +kernel
theorem d_Mo_plainLights_8 : decode prog_13_method_80_code 8 = .ok (.ireturn, 1) := by decide +kernel
def f_Mo_plainLights  (p1 : Int32) (p2 : Int32) (x_o_traces : Int32) (x_o_traced : Nat → Int32) : Option (Int32 × Int32 × (Nat → Int32)) :=
  (f_Mo_ran  (1 : Int32) x_o_traces x_o_traced).bind fun (u1, u2) =>
  some ((p2 + p1), u1, u2)
set_option maxRecDepth 20000 in
theorem c_Mo_plainLights {l : Launch} {D : va_G} {dA : Nat → ClassId} {a_o a_o_had a_o_told a_o_barred a_o_cost a_o_last a_o_often a_o_changeOf a_o_changeAt a_o_before a_o_behind a_o_tape a_o_act a_o_with a_o_lineMany a_o_testEnd a_o_lineEnd a_o_facts a_o_pile a_o_way a_o_bestWay a_o_wasHad a_o_wasLast a_o_keptHad a_o_keptTold a_o_keptLast a_o_keptOften a_o_kind a_o_traced a_o_holds a_o_size a_o_elements a_o_shifted : Nat} {x_o_code : Int32} {x_o_lamps : Int32} {x_o_at : Int32} {x_o_night : Int32} {x_o_spent : Int32} {x_o_rest : Int32} {x_o_shy : Int32} {x_o_hasBegun : Bool} {x_o_doneMany : Int32} {x_o_undoneMany : Int32} {x_o_taped : Int32} {x_o_here : Int32} {x_o_fault : Int32} {x_o_open : Int32} {x_o_laid : Int32} {x_o_hasLaw : Bool} {x_o_bestMany : Int32} {x_o_wasAt : Int32} {x_o_wasNight : Int32} {x_o_hasImage : Bool} {x_o_keptLamps : Int32} {x_o_keptAt : Int32} {x_o_keptNight : Int32} {x_o_keptSpent : Int32} {x_o_bodies : Int32} {p1 : Int32} {p2 : Int32} {x_o_traces : Int32} {x_o_traced : Nat → Int32} {r0 : Int32} {o_x_o_traces : Int32} {o_x_o_traced : Nat → Int32}   (hf : f_Mo_plainLights  p1 p2 x_o_traces x_o_traced = some (r0, o_x_o_traces, o_x_o_traced)) : CT l y_Mo_plainLights prog_13_method_80_code 3 (some .int) { frames := 1, cells := 0, slots := 0, locals := 21 } D dA [.ref a_o, .int p1, .int p2] [O_Mo a_o x_o_code x_o_lamps x_o_at x_o_night x_o_spent x_o_rest x_o_shy a_o_had a_o_told a_o_barred a_o_cost a_o_last a_o_often x_o_hasBegun x_o_doneMany x_o_undoneMany a_o_changeOf a_o_changeAt a_o_before a_o_behind a_o_tape x_o_taped x_o_here x_o_fault x_o_open x_o_laid a_o_act a_o_with a_o_lineMany a_o_testEnd a_o_lineEnd a_o_facts a_o_pile x_o_hasLaw a_o_way a_o_bestWay x_o_bestMany a_o_wasHad a_o_wasLast x_o_wasAt x_o_wasNight x_o_hasImage x_o_keptLamps x_o_keptAt x_o_keptNight x_o_keptSpent a_o_keptHad a_o_keptTold a_o_keptLast a_o_keptOften x_o_bodies a_o_kind x_o_traces a_o_traced a_o_holds a_o_size a_o_elements a_o_shifted, A_I dA a_o_traced 24 x_o_traced] (some (.int r0)) (fun _ : Unit => [O_Mo a_o x_o_code x_o_lamps x_o_at x_o_night x_o_spent x_o_rest x_o_shy a_o_had a_o_told a_o_barred a_o_cost a_o_last a_o_often x_o_hasBegun x_o_doneMany x_o_undoneMany a_o_changeOf a_o_changeAt a_o_before a_o_behind a_o_tape x_o_taped x_o_here x_o_fault x_o_open x_o_laid a_o_act a_o_with a_o_lineMany a_o_testEnd a_o_lineEnd a_o_facts a_o_pile x_o_hasLaw a_o_way a_o_bestWay x_o_bestMany a_o_wasHad a_o_wasLast x_o_wasAt x_o_wasNight x_o_hasImage x_o_keptLamps x_o_keptAt x_o_keptNight x_o_keptSpent a_o_keptHad a_o_keptTold a_o_keptLast a_o_keptOften x_o_bodies a_o_kind o_x_o_traces a_o_traced a_o_holds a_o_size a_o_elements a_o_shifted, A_I dA a_o_traced 24 o_x_o_traced]) := by
  refine ct_intro "OneLampModel" rfl (by decide +kernel) (Nat.le_of_ble_eq_true rfl) [(0, .ref a_o), (1, .int p1), (2, .int p2)] rfl (fun _ C => ?_)
  unfold f_Mo_plainLights at hf
  refine g_aload_n (pc' := 1) C 0 d_Mo_plainLights_0 rfl rfl ?_
  refine g_iconst (pc' := 2) (v := 1) C d_Mo_plainLights_1 rfl rfl ?_
  replace hf := g_bi hf; obtain ⟨⟨u1, u2⟩, hc3, hf⟩ := hf
  dsimp only at hf
  refine g_callV (pc' := 5) (st1 := []) (ws1 := [O_Mo a_o x_o_code x_o_lamps x_o_at x_o_night x_o_spent x_o_rest x_o_shy a_o_had a_o_told a_o_barred a_o_cost a_o_last a_o_often x_o_hasBegun x_o_doneMany x_o_undoneMany a_o_changeOf a_o_changeAt a_o_before a_o_behind a_o_tape x_o_taped x_o_here x_o_fault x_o_open x_o_laid a_o_act a_o_with a_o_lineMany a_o_testEnd a_o_lineEnd a_o_facts a_o_pile x_o_hasLaw a_o_way a_o_bestWay x_o_bestMany a_o_wasHad a_o_wasLast x_o_wasAt x_o_wasNight x_o_hasImage x_o_keptLamps x_o_keptAt x_o_keptNight x_o_keptSpent a_o_keptHad a_o_keptTold a_o_keptLast a_o_keptOften x_o_bodies a_o_kind u1 a_o_traced a_o_holds a_o_size a_o_elements a_o_shifted, A_I dA a_o_traced 24 u2]) C (c_Mo_ran (l := l) (D := D) (dA := dA) (a_o := a_o) (a_o_had := a_o_had) (a_o_told := a_o_told) (a_o_barred := a_o_barred) (a_o_cost := a_o_cost) (a_o_last := a_o_last) (a_o_often := a_o_often) (a_o_changeOf := a_o_changeOf) (a_o_changeAt := a_o_changeAt) (a_o_before := a_o_before) (a_o_behind := a_o_behind) (a_o_tape := a_o_tape) (a_o_act := a_o_act) (a_o_with := a_o_with) (a_o_lineMany := a_o_lineMany) (a_o_testEnd := a_o_testEnd) (a_o_lineEnd := a_o_lineEnd) (a_o_facts := a_o_facts) (a_o_pile := a_o_pile) (a_o_way := a_o_way) (a_o_bestWay := a_o_bestWay) (a_o_wasHad := a_o_wasHad) (a_o_wasLast := a_o_wasLast) (a_o_keptHad := a_o_keptHad) (a_o_keptTold := a_o_keptTold) (a_o_keptLast := a_o_keptLast) (a_o_keptOften := a_o_keptOften) (a_o_kind := a_o_kind) (a_o_traced := a_o_traced) (a_o_holds := a_o_holds) (a_o_size := a_o_size) (a_o_elements := a_o_elements) (a_o_shifted := a_o_shifted) (x_o_code := x_o_code) (x_o_lamps := x_o_lamps) (x_o_at := x_o_at) (x_o_night := x_o_night) (x_o_spent := x_o_spent) (x_o_rest := x_o_rest) (x_o_shy := x_o_shy) (x_o_hasBegun := x_o_hasBegun) (x_o_doneMany := x_o_doneMany) (x_o_undoneMany := x_o_undoneMany) (x_o_taped := x_o_taped) (x_o_here := x_o_here) (x_o_fault := x_o_fault) (x_o_open := x_o_open) (x_o_laid := x_o_laid) (x_o_hasLaw := x_o_hasLaw) (x_o_bestMany := x_o_bestMany) (x_o_wasAt := x_o_wasAt) (x_o_wasNight := x_o_wasNight) (x_o_hasImage := x_o_hasImage) (x_o_keptLamps := x_o_keptLamps) (x_o_keptAt := x_o_keptAt) (x_o_keptNight := x_o_keptNight) (x_o_keptSpent := x_o_keptSpent) (x_o_bodies := x_o_bodies)   hc3) yy_Mo_ran kf_Mo rfl mw_6_146 d_Mo_plainLights_2 rfl [] rfl rfl (Nat.le_of_ble_eq_true rfl) ⟨Nat.le_of_ble_eq_true rfl, Nat.le_of_ble_eq_true rfl⟩ rfl rfl (Nat.zero_le _) (Nat.zero_le _) 0 rfl [0, 1] rfl (by decide +kernel) rfl (g_lay_sel _ _ _ _ [(0, true), (1, true)] (by decide +kernel) rfl (by decide +kernel) rfl rfl) rfl ?_
  refine g_iload_n (pc' := 6) C 2 d_Mo_plainLights_5 rfl rfl ?_
  refine g_iload_n (pc' := 7) C 1 d_Mo_plainLights_6 rfl rfl ?_
  refine g_iadd (pc' := 8) C d_Mo_plainLights_7 rfl ?_
  replace hf := g_o2 hf; obtain ⟨h1, hf⟩ := hf; subst h1
  replace hf := g_o2 hf; obtain ⟨h1, hf⟩ := hf; subst h1
  replace hf := Option.some.inj hf; subst hf
  exact g_iret C d_Mo_plainLights_8 () rfl
def y_Mo_toldLights : MethodName := ⟨"OneLampModel", "toldLights", "(II)I"⟩
theorem yy_Mo_toldLights : YV y_Mo_toldLights prog_13_method_81_code 3 (some .int) 2 := ⟨mw_6_157, mw_1_12, mw_6_156, tm_s (y := y_Mo_toldLights) (n := 58) (by decide +kernel), by decide +kernel, by decide +kernel, by decide +kernel⟩
theorem d_Mo_toldLights_0 : decode prog_13_method_81_code 0 = .ok (.aload_n 0, 1) := by decide +kernel
theorem d_Mo_toldLights_1 : decode prog_13_method_81_code 1 = .ok (.bipush 70, 2) := by decide +kernel
theorem d_Mo_toldLights_3 : decode prog_13_method_81_code 3 = .ok (.invokevirtual 354, 3) := by decide +kernel
theorem d_Mo_toldLights_6 : decode prog_13_method_81_code 6 = .ok (.aload_n 0, 1) := by decide +kernel
theorem d_Mo_toldLights_7 : decode prog_13_method_81_code 7 = .ok (.iload_n 1, 1) := by decide +kernel
theorem d_Mo_toldLights_8 : decode prog_13_method_81_code 8 = .ok (.iload_n 2, 1) := by decide +kernel
theorem d_Mo_toldLights_9 : decode prog_13_method_81_code 9 = .ok (.invokevirtual 357, 3) := by decide +kernel
theorem d_Mo_toldLights_12 : decode prog_13_method_81_code 12 = .ok (.iconst 2, 1) := by decide +kernel
theorem d_Mo_toldLights_13 : decode prog_13_method_81_code 13 = .ok (.imul, 1) := by decide +kernel
theorem d_Mo_toldLights_14 : decode prog_13_method_81_code 14 = .ok (.ireturn, 1) := by decide +kernel
def f_Mo_toldLights  (p1 : Int32) (p2 : Int32) (x_o_traces : Int32) (x_o_traced : Nat → Int32) : Option (Int32 × Int32 × (Nat → Int32)) :=
  (f_Mo_ran  (70 : Int32) x_o_traces x_o_traced).bind fun (u1, u2) =>
  (f_Mo_plainLights  p1 p2 u1 u2).bind fun (r4, u5, u6) =>
  some ((r4 * (2 : Int32)), u5, u6)
set_option maxRecDepth 20000 in
theorem c_Mo_toldLights {l : Launch} {D : va_G} {dA : Nat → ClassId} {a_o a_o_had a_o_told a_o_barred a_o_cost a_o_last a_o_often a_o_changeOf a_o_changeAt a_o_before a_o_behind a_o_tape a_o_act a_o_with a_o_lineMany a_o_testEnd a_o_lineEnd a_o_facts a_o_pile a_o_way a_o_bestWay a_o_wasHad a_o_wasLast a_o_keptHad a_o_keptTold a_o_keptLast a_o_keptOften a_o_kind a_o_traced a_o_holds a_o_size a_o_elements a_o_shifted : Nat} {x_o_code : Int32} {x_o_lamps : Int32} {x_o_at : Int32} {x_o_night : Int32} {x_o_spent : Int32} {x_o_rest : Int32} {x_o_shy : Int32} {x_o_hasBegun : Bool} {x_o_doneMany : Int32} {x_o_undoneMany : Int32} {x_o_taped : Int32} {x_o_here : Int32} {x_o_fault : Int32} {x_o_open : Int32} {x_o_laid : Int32} {x_o_hasLaw : Bool} {x_o_bestMany : Int32} {x_o_wasAt : Int32} {x_o_wasNight : Int32} {x_o_hasImage : Bool} {x_o_keptLamps : Int32} {x_o_keptAt : Int32} {x_o_keptNight : Int32} {x_o_keptSpent : Int32} {x_o_bodies : Int32} {p1 : Int32} {p2 : Int32} {x_o_traces : Int32} {x_o_traced : Nat → Int32} {r0 : Int32} {o_x_o_traces : Int32} {o_x_o_traced : Nat → Int32}   (hf : f_Mo_toldLights  p1 p2 x_o_traces x_o_traced = some (r0, o_x_o_traces, o_x_o_traced)) : CT l y_Mo_toldLights prog_13_method_81_code 3 (some .int) { frames := 2, cells := 0, slots := 0, locals := 43 } D dA [.ref a_o, .int p1, .int p2] [O_Mo a_o x_o_code x_o_lamps x_o_at x_o_night x_o_spent x_o_rest x_o_shy a_o_had a_o_told a_o_barred a_o_cost a_o_last a_o_often x_o_hasBegun x_o_doneMany x_o_undoneMany a_o_changeOf a_o_changeAt a_o_before a_o_behind a_o_tape x_o_taped x_o_here x_o_fault x_o_open x_o_laid a_o_act a_o_with a_o_lineMany a_o_testEnd a_o_lineEnd a_o_facts a_o_pile x_o_hasLaw a_o_way a_o_bestWay x_o_bestMany a_o_wasHad a_o_wasLast x_o_wasAt x_o_wasNight x_o_hasImage x_o_keptLamps x_o_keptAt x_o_keptNight x_o_keptSpent a_o_keptHad a_o_keptTold a_o_keptLast a_o_keptOften x_o_bodies a_o_kind x_o_traces a_o_traced a_o_holds a_o_size a_o_elements a_o_shifted, A_I dA a_o_traced 24 x_o_traced] (some (.int r0)) (fun _ : Unit => [O_Mo a_o x_o_code x_o_lamps x_o_at x_o_night x_o_spent x_o_rest x_o_shy a_o_had a_o_told a_o_barred a_o_cost a_o_last a_o_often x_o_hasBegun x_o_doneMany x_o_undoneMany a_o_changeOf a_o_changeAt a_o_before a_o_behind a_o_tape x_o_taped x_o_here x_o_fault x_o_open x_o_laid a_o_act a_o_with a_o_lineMany a_o_testEnd a_o_lineEnd a_o_facts a_o_pile x_o_hasLaw a_o_way a_o_bestWay x_o_bestMany a_o_wasHad a_o_wasLast x_o_wasAt x_o_wasNight x_o_hasImage x_o_keptLamps x_o_keptAt x_o_keptNight x_o_keptSpent a_o_keptHad a_o_keptTold a_o_keptLast a_o_keptOften x_o_bodies a_o_kind o_x_o_traces a_o_traced a_o_holds a_o_size a_o_elements a_o_shifted, A_I dA a_o_traced 24 o_x_o_traced]) := by
  refine ct_intro "OneLampModel" rfl (by decide +kernel) (Nat.le_of_ble_eq_true rfl) [(0, .ref a_o), (1, .int p1), (2, .int p2)] rfl (fun _ C => ?_)
  unfold f_Mo_toldLights at hf
  refine g_aload_n (pc' := 1) C 0 d_Mo_toldLights_0 rfl rfl ?_
  refine g_bipush (pc' := 3) (v := 70) C d_Mo_toldLights_1 rfl rfl ?_
  replace hf := g_bi hf; obtain ⟨⟨u1, u2⟩, hc3, hf⟩ := hf
  dsimp only at hf
  refine g_callV (pc' := 6) (st1 := []) (ws1 := [O_Mo a_o x_o_code x_o_lamps x_o_at x_o_night x_o_spent x_o_rest x_o_shy a_o_had a_o_told a_o_barred a_o_cost a_o_last a_o_often x_o_hasBegun x_o_doneMany x_o_undoneMany a_o_changeOf a_o_changeAt a_o_before a_o_behind a_o_tape x_o_taped x_o_here x_o_fault x_o_open x_o_laid a_o_act a_o_with a_o_lineMany a_o_testEnd a_o_lineEnd a_o_facts a_o_pile x_o_hasLaw a_o_way a_o_bestWay x_o_bestMany a_o_wasHad a_o_wasLast x_o_wasAt x_o_wasNight x_o_hasImage x_o_keptLamps x_o_keptAt x_o_keptNight x_o_keptSpent a_o_keptHad a_o_keptTold a_o_keptLast a_o_keptOften x_o_bodies a_o_kind u1 a_o_traced a_o_holds a_o_size a_o_elements a_o_shifted, A_I dA a_o_traced 24 u2]) C (c_Mo_ran (l := l) (D := D) (dA := dA) (a_o := a_o) (a_o_had := a_o_had) (a_o_told := a_o_told) (a_o_barred := a_o_barred) (a_o_cost := a_o_cost) (a_o_last := a_o_last) (a_o_often := a_o_often) (a_o_changeOf := a_o_changeOf) (a_o_changeAt := a_o_changeAt) (a_o_before := a_o_before) (a_o_behind := a_o_behind) (a_o_tape := a_o_tape) (a_o_act := a_o_act) (a_o_with := a_o_with) (a_o_lineMany := a_o_lineMany) (a_o_testEnd := a_o_testEnd) (a_o_lineEnd := a_o_lineEnd) (a_o_facts := a_o_facts) (a_o_pile := a_o_pile) (a_o_way := a_o_way) (a_o_bestWay := a_o_bestWay) (a_o_wasHad := a_o_wasHad) (a_o_wasLast := a_o_wasLast) (a_o_keptHad := a_o_keptHad) (a_o_keptTold := a_o_keptTold) (a_o_keptLast := a_o_keptLast) (a_o_keptOften := a_o_keptOften) (a_o_kind := a_o_kind) (a_o_traced := a_o_traced) (a_o_holds := a_o_holds) (a_o_size := a_o_size) (a_o_elements := a_o_elements) (a_o_shifted := a_o_shifted) (x_o_code := x_o_code) (x_o_lamps := x_o_lamps) (x_o_at := x_o_at) (x_o_night := x_o_night) (x_o_spent := x_o_spent) (x_o_rest := x_o_rest) (x_o_shy := x_o_shy) (x_o_hasBegun := x_o_hasBegun) (x_o_doneMany := x_o_doneMany) (x_o_undoneMany := x_o_undoneMany) (x_o_taped := x_o_taped) (x_o_here := x_o_here) (x_o_fault := x_o_fault) (x_o_open := x_o_open) (x_o_laid := x_o_laid) (x_o_hasLaw := x_o_hasLaw) (x_o_bestMany := x_o_bestMany) (x_o_wasAt := x_o_wasAt) (x_o_wasNight := x_o_wasNight) (x_o_hasImage := x_o_hasImage) (x_o_keptLamps := x_o_keptLamps) (x_o_keptAt := x_o_keptAt) (x_o_keptNight := x_o_keptNight) (x_o_keptSpent := x_o_keptSpent) (x_o_bodies := x_o_bodies)   hc3) yy_Mo_ran kf_Mo rfl mw_6_146 d_Mo_toldLights_3 rfl [] rfl rfl (Nat.le_of_ble_eq_true rfl) ⟨Nat.le_of_ble_eq_true rfl, Nat.le_of_ble_eq_true rfl⟩ rfl rfl (Nat.zero_le _) (Nat.zero_le _) 0 rfl [0, 1] rfl (by decide +kernel) rfl (g_lay_sel _ _ _ _ [(0, true), (1, true)] (by decide +kernel) rfl (by decide +kernel) rfl rfl) rfl ?_
  refine g_aload_n (pc' := 7) C 0 d_Mo_toldLights_6 rfl rfl ?_
  refine g_iload_n (pc' := 8) C 1 d_Mo_toldLights_7 rfl rfl ?_
  refine g_iload_n (pc' := 9) C 2 d_Mo_toldLights_8 rfl rfl ?_
  replace hf := g_bi hf; obtain ⟨⟨r4, u5, u6⟩, hc7, hf⟩ := hf
  dsimp only at hf
  refine g_callV (pc' := 12) (st1 := [.int r4]) (ws1 := [O_Mo a_o x_o_code x_o_lamps x_o_at x_o_night x_o_spent x_o_rest x_o_shy a_o_had a_o_told a_o_barred a_o_cost a_o_last a_o_often x_o_hasBegun x_o_doneMany x_o_undoneMany a_o_changeOf a_o_changeAt a_o_before a_o_behind a_o_tape x_o_taped x_o_here x_o_fault x_o_open x_o_laid a_o_act a_o_with a_o_lineMany a_o_testEnd a_o_lineEnd a_o_facts a_o_pile x_o_hasLaw a_o_way a_o_bestWay x_o_bestMany a_o_wasHad a_o_wasLast x_o_wasAt x_o_wasNight x_o_hasImage x_o_keptLamps x_o_keptAt x_o_keptNight x_o_keptSpent a_o_keptHad a_o_keptTold a_o_keptLast a_o_keptOften x_o_bodies a_o_kind u5 a_o_traced a_o_holds a_o_size a_o_elements a_o_shifted, A_I dA a_o_traced 24 u6]) C (c_Mo_plainLights (l := l) (D := D) (dA := dA) (a_o := a_o) (a_o_had := a_o_had) (a_o_told := a_o_told) (a_o_barred := a_o_barred) (a_o_cost := a_o_cost) (a_o_last := a_o_last) (a_o_often := a_o_often) (a_o_changeOf := a_o_changeOf) (a_o_changeAt := a_o_changeAt) (a_o_before := a_o_before) (a_o_behind := a_o_behind) (a_o_tape := a_o_tape) (a_o_act := a_o_act) (a_o_with := a_o_with) (a_o_lineMany := a_o_lineMany) (a_o_testEnd := a_o_testEnd) (a_o_lineEnd := a_o_lineEnd) (a_o_facts := a_o_facts) (a_o_pile := a_o_pile) (a_o_way := a_o_way) (a_o_bestWay := a_o_bestWay) (a_o_wasHad := a_o_wasHad) (a_o_wasLast := a_o_wasLast) (a_o_keptHad := a_o_keptHad) (a_o_keptTold := a_o_keptTold) (a_o_keptLast := a_o_keptLast) (a_o_keptOften := a_o_keptOften) (a_o_kind := a_o_kind) (a_o_traced := a_o_traced) (a_o_holds := a_o_holds) (a_o_size := a_o_size) (a_o_elements := a_o_elements) (a_o_shifted := a_o_shifted) (x_o_code := x_o_code) (x_o_lamps := x_o_lamps) (x_o_at := x_o_at) (x_o_night := x_o_night) (x_o_spent := x_o_spent) (x_o_rest := x_o_rest) (x_o_shy := x_o_shy) (x_o_hasBegun := x_o_hasBegun) (x_o_doneMany := x_o_doneMany) (x_o_undoneMany := x_o_undoneMany) (x_o_taped := x_o_taped) (x_o_here := x_o_here) (x_o_fault := x_o_fault) (x_o_open := x_o_open) (x_o_laid := x_o_laid) (x_o_hasLaw := x_o_hasLaw) (x_o_bestMany := x_o_bestMany) (x_o_wasAt := x_o_wasAt) (x_o_wasNight := x_o_wasNight) (x_o_hasImage := x_o_hasImage) (x_o_keptLamps := x_o_keptLamps) (x_o_keptAt := x_o_keptAt) (x_o_keptNight := x_o_keptNight) (x_o_keptSpent := x_o_keptSpent) (x_o_bodies := x_o_bodies)   hc7) yy_Mo_plainLights kf_Mo rfl mw_6_150 d_Mo_toldLights_9 rfl [] rfl rfl (Nat.le_of_ble_eq_true rfl) ⟨Nat.le_of_ble_eq_true rfl, Nat.le_of_ble_eq_true rfl⟩ rfl rfl (Nat.zero_le _) (Nat.zero_le _) 0 rfl [0, 1] rfl (by decide +kernel) rfl (g_lay_sel _ _ _ _ [(0, true), (1, true)] (by decide +kernel) rfl (by decide +kernel) rfl rfl) rfl ?_
  refine g_iconst (pc' := 13) (v := 2) C d_Mo_toldLights_12 rfl rfl ?_
  refine g_imul (pc' := 14) C d_Mo_toldLights_13 rfl ?_
  replace hf := g_o2 hf; obtain ⟨h1, hf⟩ := hf; subst h1
  replace hf := g_o2 hf; obtain ⟨h1, hf⟩ := hf; subst h1
  replace hf := Option.some.inj hf; subst hf
  exact g_iret C d_Mo_toldLights_14 () rfl
def y_Mo_lighting : MethodName := ⟨"OneLampModel", "lighting", "(II)I"⟩
theorem yy_Mo_lighting : YV y_Mo_lighting prog_13_method_82_code 3 (some .int) 2 := ⟨mw_6_142, mw_1_12, mw_6_141, tm_s (y := y_Mo_lighting) (n := 58) (by decide +kernel), by decide +kernel, by decide +kernel, by decide +kernel⟩
theorem d_Mo_lighting_0 : decode prog_13_method_82_code 0 = .ok (.aload_n 0, 1) := by decide +kernel
theorem d_Mo_lighting_1 : decode prog_13_method_82_code 1 = .ok (.getfield 95, 3) := by decide +kernel
theorem d_Mo_lighting_4 : decode prog_13_method_82_code 4 = .ok (.iload_n 1, 1) := by decide +kernel
theorem d_Mo_lighting_5 : decode prog_13_method_82_code 5 = .ok (.iaload, 1) := by decide +kernel
theorem d_Mo_lighting_6 : decode prog_13_method_82_code 6 = .ok (.iconst 1, 1) := by decide +kernel
theorem d_Mo_lighting_7 : decode prog_13_method_82_code 7 = .ok (.invokestatic 360, 3) := by decide +kernel
theorem d_Mo_lighting_10 : decode prog_13_method_82_code 10 = .ok (.ifCond .eq 18, 3) := by decide +kernel
theorem d_Mo_lighting_13 : decode prog_13_method_82_code 13 = .ok (.aload_n 0, 1) := by decide +kernel
theorem d_Mo_lighting_14 : decode prog_13_method_82_code 14 = .ok (.bipush 20, 2) := by decide +kernel
theorem d_Mo_lighting_16 : decode prog_13_method_82_code 16 = .ok (.invokevirtual 354, 3) := by decide +kernel
theorem d_Mo_lighting_19 : decode prog_13_method_82_code 19 = .ok (.aload_n 0, 1) := by decide +kernel
theorem d_Mo_lighting_20 : decode prog_13_method_82_code 20 = .ok (.iload_n 1, 1) := by decide +kernel
theorem d_Mo_lighting_21 : decode prog_13_method_82_code 21 = .ok (.iload_n 2, 1) := by decide +kernel
theorem d_Mo_lighting_22 : decode prog_13_method_82_code 22 = .ok (.invokevirtual 357, 3) := by decide +kernel
theorem d_Mo_lighting_25 : decode prog_13_method_82_code 25 = .ok (.iconst 3, 1) := by decide +kernel
theorem d_Mo_lighting_26 : decode prog_13_method_82_code 26 = .ok (.iadd, 1) := by decide +kernel
theorem d_Mo_lighting_27 : decode prog_13_method_82_code 27 = .ok (.ireturn, 1) := by decide +kernel
theorem d_Mo_lighting_28 : decode prog_13_method_82_code 28 = .ok (.aload_n 0, 1) := by decide +kernel
theorem d_Mo_lighting_29 : decode prog_13_method_82_code 29 = .ok (.getfield 95, 3) := by decide +kernel
theorem d_Mo_lighting_32 : decode prog_13_method_82_code 32 = .ok (.iload_n 1, 1) := by decide +kernel
theorem d_Mo_lighting_33 : decode prog_13_method_82_code 33 = .ok (.iaload, 1) := by decide +kernel
theorem d_Mo_lighting_34 : decode prog_13_method_82_code 34 = .ok (.bipush 7, 2) := by decide +kernel
theorem d_Mo_lighting_36 : decode prog_13_method_82_code 36 = .ok (.if_icmp .ne 18, 3) := by decide +kernel
theorem d_Mo_lighting_39 : decode prog_13_method_82_code 39 = .ok (.aload_n 0, 1) := by decide +kernel
theorem d_Mo_lighting_40 : decode prog_13_method_82_code 40 = .ok (.bipush 81, 2) := by decide +kernel
theorem d_Mo_lighting_42 : decode prog_13_method_82_code 42 = .ok (.invokevirtual 354, 3) := by decide +kernel
theorem d_Mo_lighting_45 : decode prog_13_method_82_code 45 = .ok (.aload_n 0, 1) := by decide +kernel
theorem d_Mo_lighting_46 : decode prog_13_method_82_code 46 = .ok (.iload_n 1, 1) := by decide +kernel
theorem d_Mo_lighting_47 : decode prog_13_method_82_code 47 = .ok (.iload_n 2, 1) := by decide +kernel
theorem d_Mo_lighting_48 : decode prog_13_method_82_code 48 = .ok (.invokevirtual 364, 3) := by decide +kernel
theorem d_Mo_lighting_51 : decode prog_13_method_82_code 51 = .ok (.iconst 1, 1) := by decide +kernel
theorem d_Mo_lighting_52 : decode prog_13_method_82_code 52 = .ok (.isub, 1) := by decide +kernel
theorem d_Mo_lighting_53 : decode prog_13_method_82_code 53 = .ok (.ireturn, 1) := by decide +kernel
theorem d_Mo_lighting_54 : decode prog_13_method_82_code 54 = .ok (.aload_n 0, 1) := by decide +kernel
theorem d_Mo_lighting_55 : decode prog_13_method_82_code 55 = .ok (.getfield 95, 3) := by decide +kernel
theorem d_Mo_lighting_58 : decode prog_13_method_82_code 58 = .ok (.iload_n 1, 1) := by decide +kernel
theorem d_Mo_lighting_59 : decode prog_13_method_82_code 59 = .ok (.iaload, 1) := by decide +kernel
theorem d_Mo_lighting_60 : decode prog_13_method_82_code 60 = .ok (.bipush 6, 2) := by decide +kernel
theorem d_Mo_lighting_62 : decode prog_13_method_82_code 62 = .ok (.if_icmp .ne 12, 3) := by decide +kernel
theorem d_Mo_lighting_65 : decode prog_13_method_82_code 65 = .ok (.aload_n 0, 1) := by decide +kernel
theorem d_Mo_lighting_66 : decode prog_13_method_82_code 66 = .ok (.iload_n 1, 1) := by decide +kernel
theorem d_Mo_lighting_67 : decode prog_13_method_82_code 67 = .ok (.iload_n 2, 1) := by decide +kernel
theorem d_Mo_lighting_68 : decode prog_13_method_82_code 68 = .ok (.invokevirtual 364, 3) := by decide +kernel
theorem d_Mo_lighting_71 : decode prog_13_method_82_code 71 = .ok (.goto 9, 3) := by decide +kernel
theorem d_Mo_lighting_74 : decode prog_13_method_82_code 74 = .ok (.aload_n 0, 1) := by decide +kernel
theorem d_Mo_lighting_75 : decode prog_13_method_82_code 75 = .ok (.iload_n 1, 1) := by decide +kernel
theorem d_Mo_lighting_76 : decode prog_13_method_82_code 76 = .ok (.iload_n 2, 1) := by decide +kernel
theorem d_Mo_lighting_77 : decode prog_13_method_82_code 77 = .ok (.invokevirtual 357, 3) := by decide +kernel
theorem d_Mo_lighting_80 : decode prog_13_method_82_code 80 = .ok (.ireturn, 1) := by decide +kernel
def f_Mo_lighting  (p1 : Int32) (p2 : Int32) (x_o_traces : Int32) (x_o_kind : Nat → Int32) (x_o_traced : Nat → Int32) : Option (Int32 × Int32 × (Nat → Int32)) :=
  if p1 < 0 ∨ 50 ≤ Int32.toNatClampNeg p1 then none else
  (f_Mo_isUnder  (x_o_kind (Int32.toNatClampNeg p1)) (1 : Int32)).bind fun r1 =>
  if r1 = true then
    ((f_Mo_ran  (20 : Int32) x_o_traces x_o_traced).bind fun (u18, u19) =>
    (f_Mo_plainLights  p1 p2 u18 u19).bind fun (r21, u22, u23) =>
    some ((r21 + (3 : Int32)), u22, u23))
  else
    (if p1 < 0 ∨ 50 ≤ Int32.toNatClampNeg p1 then none else
    if (x_o_kind (Int32.toNatClampNeg p1)) = (7 : Int32) then
      ((f_Mo_ran  (81 : Int32) x_o_traces x_o_traced).bind fun (u11, u12) =>
      (f_Mo_toldLights  p1 p2 u11 u12).bind fun (r14, u15, u16) =>
      some ((r14 - (1 : Int32)), u15, u16))
    else
      (if p1 < 0 ∨ 50 ≤ Int32.toNatClampNeg p1 then none else
      if (x_o_kind (Int32.toNatClampNeg p1)) = (6 : Int32) then
        ((f_Mo_toldLights  p1 p2 x_o_traces x_o_traced).bind fun (r7, u8, u9) =>
        some (r7, u8, u9))
      else
        ((f_Mo_plainLights  p1 p2 x_o_traces x_o_traced).bind fun (r3, u4, u5) =>
        some (r3, u4, u5))))
set_option maxRecDepth 20000 in
theorem c_Mo_lighting {l : Launch} {D : va_G} {dA : Nat → ClassId} {a_o a_o_had a_o_told a_o_barred a_o_cost a_o_last a_o_often a_o_changeOf a_o_changeAt a_o_before a_o_behind a_o_tape a_o_act a_o_with a_o_lineMany a_o_testEnd a_o_lineEnd a_o_facts a_o_pile a_o_way a_o_bestWay a_o_wasHad a_o_wasLast a_o_keptHad a_o_keptTold a_o_keptLast a_o_keptOften a_o_kind a_o_traced a_o_holds a_o_size a_o_elements a_o_shifted : Nat} {x_o_code : Int32} {x_o_lamps : Int32} {x_o_at : Int32} {x_o_night : Int32} {x_o_spent : Int32} {x_o_rest : Int32} {x_o_shy : Int32} {x_o_hasBegun : Bool} {x_o_doneMany : Int32} {x_o_undoneMany : Int32} {x_o_taped : Int32} {x_o_here : Int32} {x_o_fault : Int32} {x_o_open : Int32} {x_o_laid : Int32} {x_o_hasLaw : Bool} {x_o_bestMany : Int32} {x_o_wasAt : Int32} {x_o_wasNight : Int32} {x_o_hasImage : Bool} {x_o_keptLamps : Int32} {x_o_keptAt : Int32} {x_o_keptNight : Int32} {x_o_keptSpent : Int32} {x_o_bodies : Int32} {p1 : Int32} {p2 : Int32} {x_o_traces : Int32} {x_o_kind : Nat → Int32} {x_o_traced : Nat → Int32} {r0 : Int32} {o_x_o_traces : Int32} {o_x_o_traced : Nat → Int32}   (hf : f_Mo_lighting  p1 p2 x_o_traces x_o_kind x_o_traced = some (r0, o_x_o_traces, o_x_o_traced)) : CT l y_Mo_lighting prog_13_method_82_code 3 (some .int) { frames := 3, cells := 0, slots := 0, locals := 65 } D dA [.ref a_o, .int p1, .int p2] [O_Mo a_o x_o_code x_o_lamps x_o_at x_o_night x_o_spent x_o_rest x_o_shy a_o_had a_o_told a_o_barred a_o_cost a_o_last a_o_often x_o_hasBegun x_o_doneMany x_o_undoneMany a_o_changeOf a_o_changeAt a_o_before a_o_behind a_o_tape x_o_taped x_o_here x_o_fault x_o_open x_o_laid a_o_act a_o_with a_o_lineMany a_o_testEnd a_o_lineEnd a_o_facts a_o_pile x_o_hasLaw a_o_way a_o_bestWay x_o_bestMany a_o_wasHad a_o_wasLast x_o_wasAt x_o_wasNight x_o_hasImage x_o_keptLamps x_o_keptAt x_o_keptNight x_o_keptSpent a_o_keptHad a_o_keptTold a_o_keptLast a_o_keptOften x_o_bodies a_o_kind x_o_traces a_o_traced a_o_holds a_o_size a_o_elements a_o_shifted, A_I dA a_o_kind 50 x_o_kind, A_I dA a_o_traced 24 x_o_traced] (some (.int r0)) (fun _ : Unit => [O_Mo a_o x_o_code x_o_lamps x_o_at x_o_night x_o_spent x_o_rest x_o_shy a_o_had a_o_told a_o_barred a_o_cost a_o_last a_o_often x_o_hasBegun x_o_doneMany x_o_undoneMany a_o_changeOf a_o_changeAt a_o_before a_o_behind a_o_tape x_o_taped x_o_here x_o_fault x_o_open x_o_laid a_o_act a_o_with a_o_lineMany a_o_testEnd a_o_lineEnd a_o_facts a_o_pile x_o_hasLaw a_o_way a_o_bestWay x_o_bestMany a_o_wasHad a_o_wasLast x_o_wasAt x_o_wasNight x_o_hasImage x_o_keptLamps x_o_keptAt x_o_keptNight x_o_keptSpent a_o_keptHad a_o_keptTold a_o_keptLast a_o_keptOften x_o_bodies a_o_kind o_x_o_traces a_o_traced a_o_holds a_o_size a_o_elements a_o_shifted, A_I dA a_o_kind 50 x_o_kind, A_I dA a_o_traced 24 o_x_o_traced]) := by
  refine ct_intro "OneLampModel" rfl (by decide +kernel) (Nat.le_of_ble_eq_true rfl) [(0, .ref a_o), (1, .int p1), (2, .int p2)] rfl (fun _ C => ?_)
  unfold f_Mo_lighting at hf
  refine g_aload_n (pc' := 1) C 0 d_Mo_lighting_0 rfl rfl ?_
  refine g_get (pc' := 4) C kf_Mo 51 mw_4_189 d_Mo_lighting_1 rfl 0 rfl (by decide) rfl ?_
  refine g_iload_n (pc' := 5) C 1 d_Mo_lighting_4 rfl rfl ?_
  have hb := g_ck hf
  replace hf := g_in hb hf
  refine g_iald (pc' := 6) C d_Mo_lighting_5 rfl 1 rfl hb ?_
  refine g_iconst (pc' := 7) (v := 1) C d_Mo_lighting_6 rfl rfl ?_
  replace hf := g_bi hf; obtain ⟨r1, hc2, hf⟩ := hf
  refine g_callS (pc' := 10) (st1 := [.int (b2i r1)]) (ws1 := [O_Mo a_o x_o_code x_o_lamps x_o_at x_o_night x_o_spent x_o_rest x_o_shy a_o_had a_o_told a_o_barred a_o_cost a_o_last a_o_often x_o_hasBegun x_o_doneMany x_o_undoneMany a_o_changeOf a_o_changeAt a_o_before a_o_behind a_o_tape x_o_taped x_o_here x_o_fault x_o_open x_o_laid a_o_act a_o_with a_o_lineMany a_o_testEnd a_o_lineEnd a_o_facts a_o_pile x_o_hasLaw a_o_way a_o_bestWay x_o_bestMany a_o_wasHad a_o_wasLast x_o_wasAt x_o_wasNight x_o_hasImage x_o_keptLamps x_o_keptAt x_o_keptNight x_o_keptSpent a_o_keptHad a_o_keptTold a_o_keptLast a_o_keptOften x_o_bodies a_o_kind x_o_traces a_o_traced a_o_holds a_o_size a_o_elements a_o_shifted, A_I dA a_o_kind 50 x_o_kind, A_I dA a_o_traced 24 x_o_traced]) C (c_Mo_isUnder (l := l) (D := D) (dA := dA)    hc2) yy_Mo_isUnder mw_6_143 d_Mo_lighting_7 rfl [] rfl rfl (Nat.le_of_ble_eq_true rfl) ⟨Nat.le_of_ble_eq_true rfl, Nat.le_of_ble_eq_true rfl⟩ rfl rfl (Nat.zero_le _) (Nat.zero_le _) [] rfl (by decide +kernel) rfl (g_lay_sel _ _ _ _ [(0, false), (1, false), (2, false)] (by decide +kernel) rfl (by decide +kernel) rfl rfl) rfl ?_
  refine g_if_eqb (pc' := 13) (tgt := 28) C d_Mo_lighting_10 rfl rfl (fun h => ?_) (fun h => ?_)
  · replace hf := g_bf h hf
    refine g_aload_n (pc' := 29) C 0 d_Mo_lighting_28 rfl rfl ?_
    refine g_get (pc' := 32) C kf_Mo 51 mw_4_189 d_Mo_lighting_29 rfl 0 rfl (by decide) rfl ?_
    refine g_iload_n (pc' := 33) C 1 d_Mo_lighting_32 rfl rfl ?_
    have hb := g_ck hf
    replace hf := g_in hb hf
    refine g_iald (pc' := 34) C d_Mo_lighting_33 rfl 1 rfl hb ?_
    refine g_bipush (pc' := 36) (v := 7) C d_Mo_lighting_34 rfl rfl ?_
    refine g_icmp_ne (pc' := 39) (tgt := 54) C d_Mo_lighting_36 rfl rfl (fun h => ?_) (fun h => ?_)
    · replace hf := g_in h hf
      refine g_aload_n (pc' := 55) C 0 d_Mo_lighting_54 rfl rfl ?_
      refine g_get (pc' := 58) C kf_Mo 51 mw_4_189 d_Mo_lighting_55 rfl 0 rfl (by decide) rfl ?_
      refine g_iload_n (pc' := 59) C 1 d_Mo_lighting_58 rfl rfl ?_
      have hb := g_ck hf
      replace hf := g_in hb hf
      refine g_iald (pc' := 60) C d_Mo_lighting_59 rfl 1 rfl hb ?_
      refine g_bipush (pc' := 62) (v := 6) C d_Mo_lighting_60 rfl rfl ?_
      refine g_icmp_ne (pc' := 65) (tgt := 74) C d_Mo_lighting_62 rfl rfl (fun h => ?_) (fun h => ?_)
      · replace hf := g_in h hf
        refine g_aload_n (pc' := 75) C 0 d_Mo_lighting_74 rfl rfl ?_
        refine g_iload_n (pc' := 76) C 1 d_Mo_lighting_75 rfl rfl ?_
        refine g_iload_n (pc' := 77) C 2 d_Mo_lighting_76 rfl rfl ?_
        replace hf := g_bi hf; obtain ⟨⟨r3, u4, u5⟩, hc6, hf⟩ := hf
        dsimp only at hf
        refine g_callV (pc' := 80) (st1 := [.int r3]) (ws1 := [O_Mo a_o x_o_code x_o_lamps x_o_at x_o_night x_o_spent x_o_rest x_o_shy a_o_had a_o_told a_o_barred a_o_cost a_o_last a_o_often x_o_hasBegun x_o_doneMany x_o_undoneMany a_o_changeOf a_o_changeAt a_o_before a_o_behind a_o_tape x_o_taped x_o_here x_o_fault x_o_open x_o_laid a_o_act a_o_with a_o_lineMany a_o_testEnd a_o_lineEnd a_o_facts a_o_pile x_o_hasLaw a_o_way a_o_bestWay x_o_bestMany a_o_wasHad a_o_wasLast x_o_wasAt x_o_wasNight x_o_hasImage x_o_keptLamps x_o_keptAt x_o_keptNight x_o_keptSpent a_o_keptHad a_o_keptTold a_o_keptLast a_o_keptOften x_o_bodies a_o_kind u4 a_o_traced a_o_holds a_o_size a_o_elements a_o_shifted, A_I dA a_o_kind 50 x_o_kind, A_I dA a_o_traced 24 u5]) C (c_Mo_plainLights (l := l) (D := D) (dA := dA) (a_o := a_o) (a_o_had := a_o_had) (a_o_told := a_o_told) (a_o_barred := a_o_barred) (a_o_cost := a_o_cost) (a_o_last := a_o_last) (a_o_often := a_o_often) (a_o_changeOf := a_o_changeOf) (a_o_changeAt := a_o_changeAt) (a_o_before := a_o_before) (a_o_behind := a_o_behind) (a_o_tape := a_o_tape) (a_o_act := a_o_act) (a_o_with := a_o_with) (a_o_lineMany := a_o_lineMany) (a_o_testEnd := a_o_testEnd) (a_o_lineEnd := a_o_lineEnd) (a_o_facts := a_o_facts) (a_o_pile := a_o_pile) (a_o_way := a_o_way) (a_o_bestWay := a_o_bestWay) (a_o_wasHad := a_o_wasHad) (a_o_wasLast := a_o_wasLast) (a_o_keptHad := a_o_keptHad) (a_o_keptTold := a_o_keptTold) (a_o_keptLast := a_o_keptLast) (a_o_keptOften := a_o_keptOften) (a_o_kind := a_o_kind) (a_o_traced := a_o_traced) (a_o_holds := a_o_holds) (a_o_size := a_o_size) (a_o_elements := a_o_elements) (a_o_shifted := a_o_shifted) (x_o_code := x_o_code) (x_o_lamps := x_o_lamps) (x_o_at := x_o_at) (x_o_night := x_o_night) (x_o_spent := x_o_spent) (x_o_rest := x_o_rest) (x_o_shy := x_o_shy) (x_o_hasBegun := x_o_hasBegun) (x_o_doneMany := x_o_doneMany) (x_o_undoneMany := x_o_undoneMany) (x_o_taped := x_o_taped) (x_o_here := x_o_here) (x_o_fault := x_o_fault) (x_o_open := x_o_open) (x_o_laid := x_o_laid) (x_o_hasLaw := x_o_hasLaw) (x_o_bestMany := x_o_bestMany) (x_o_wasAt := x_o_wasAt) (x_o_wasNight := x_o_wasNight) (x_o_hasImage := x_o_hasImage) (x_o_keptLamps := x_o_keptLamps) (x_o_keptAt := x_o_keptAt) (x_o_keptNight := x_o_keptNight) (x_o_keptSpent := x_o_keptSpent) (x_o_bodies := x_o_bodies)   hc6) yy_Mo_plainLights kf_Mo rfl mw_6_150 d_Mo_lighting_77 rfl [] rfl rfl (Nat.le_of_ble_eq_true rfl) ⟨Nat.le_of_ble_eq_true rfl, Nat.le_of_ble_eq_true rfl⟩ rfl rfl (Nat.zero_le _) (Nat.zero_le _) 0 rfl [0, 2] rfl (by decide +kernel) rfl (g_lay_sel _ _ _ _ [(0, true), (1, false), (1, true)] (by decide +kernel) rfl (by decide +kernel) rfl rfl) rfl ?_
        replace hf := g_o2 hf; obtain ⟨h1, hf⟩ := hf; subst h1
        replace hf := g_o2 hf; obtain ⟨h1, hf⟩ := hf; subst h1
        replace hf := Option.some.inj hf; subst hf
        exact g_iret C d_Mo_lighting_80 () rfl
      · replace hf := g_ip h hf
        refine g_aload_n (pc' := 66) C 0 d_Mo_lighting_65 rfl rfl ?_
        refine g_iload_n (pc' := 67) C 1 d_Mo_lighting_66 rfl rfl ?_
        refine g_iload_n (pc' := 68) C 2 d_Mo_lighting_67 rfl rfl ?_
        replace hf := g_bi hf; obtain ⟨⟨r7, u8, u9⟩, hc10, hf⟩ := hf
        dsimp only at hf
        refine g_callV (pc' := 71) (st1 := [.int r7]) (ws1 := [O_Mo a_o x_o_code x_o_lamps x_o_at x_o_night x_o_spent x_o_rest x_o_shy a_o_had a_o_told a_o_barred a_o_cost a_o_last a_o_often x_o_hasBegun x_o_doneMany x_o_undoneMany a_o_changeOf a_o_changeAt a_o_before a_o_behind a_o_tape x_o_taped x_o_here x_o_fault x_o_open x_o_laid a_o_act a_o_with a_o_lineMany a_o_testEnd a_o_lineEnd a_o_facts a_o_pile x_o_hasLaw a_o_way a_o_bestWay x_o_bestMany a_o_wasHad a_o_wasLast x_o_wasAt x_o_wasNight x_o_hasImage x_o_keptLamps x_o_keptAt x_o_keptNight x_o_keptSpent a_o_keptHad a_o_keptTold a_o_keptLast a_o_keptOften x_o_bodies a_o_kind u8 a_o_traced a_o_holds a_o_size a_o_elements a_o_shifted, A_I dA a_o_kind 50 x_o_kind, A_I dA a_o_traced 24 u9]) C (c_Mo_toldLights (l := l) (D := D) (dA := dA) (a_o := a_o) (a_o_had := a_o_had) (a_o_told := a_o_told) (a_o_barred := a_o_barred) (a_o_cost := a_o_cost) (a_o_last := a_o_last) (a_o_often := a_o_often) (a_o_changeOf := a_o_changeOf) (a_o_changeAt := a_o_changeAt) (a_o_before := a_o_before) (a_o_behind := a_o_behind) (a_o_tape := a_o_tape) (a_o_act := a_o_act) (a_o_with := a_o_with) (a_o_lineMany := a_o_lineMany) (a_o_testEnd := a_o_testEnd) (a_o_lineEnd := a_o_lineEnd) (a_o_facts := a_o_facts) (a_o_pile := a_o_pile) (a_o_way := a_o_way) (a_o_bestWay := a_o_bestWay) (a_o_wasHad := a_o_wasHad) (a_o_wasLast := a_o_wasLast) (a_o_keptHad := a_o_keptHad) (a_o_keptTold := a_o_keptTold) (a_o_keptLast := a_o_keptLast) (a_o_keptOften := a_o_keptOften) (a_o_kind := a_o_kind) (a_o_traced := a_o_traced) (a_o_holds := a_o_holds) (a_o_size := a_o_size) (a_o_elements := a_o_elements) (a_o_shifted := a_o_shifted) (x_o_code := x_o_code) (x_o_lamps := x_o_lamps) (x_o_at := x_o_at) (x_o_night := x_o_night) (x_o_spent := x_o_spent) (x_o_rest := x_o_rest) (x_o_shy := x_o_shy) (x_o_hasBegun := x_o_hasBegun) (x_o_doneMany := x_o_doneMany) (x_o_undoneMany := x_o_undoneMany) (x_o_taped := x_o_taped) (x_o_here := x_o_here) (x_o_fault := x_o_fault) (x_o_open := x_o_open) (x_o_laid := x_o_laid) (x_o_hasLaw := x_o_hasLaw) (x_o_bestMany := x_o_bestMany) (x_o_wasAt := x_o_wasAt) (x_o_wasNight := x_o_wasNight) (x_o_hasImage := x_o_hasImage) (x_o_keptLamps := x_o_keptLamps) (x_o_keptAt := x_o_keptAt) (x_o_keptNight := x_o_keptNight) (x_o_keptSpent := x_o_keptSpent) (x_o_bodies := x_o_bodies)   hc10) yy_Mo_toldLights kf_Mo rfl mw_6_154 d_Mo_lighting_68 rfl [] rfl rfl (Nat.le_of_ble_eq_true rfl) ⟨Nat.le_of_ble_eq_true rfl, Nat.le_of_ble_eq_true rfl⟩ rfl rfl (Nat.zero_le _) (Nat.zero_le _) 0 rfl [0, 2] rfl (by decide +kernel) rfl (g_lay_sel _ _ _ _ [(0, true), (1, false), (1, true)] (by decide +kernel) rfl (by decide +kernel) rfl rfl) rfl ?_
        refine g_goto (tgt := 80) C d_Mo_lighting_71 rfl ?_
        replace hf := g_o2 hf; obtain ⟨h1, hf⟩ := hf; subst h1
        replace hf := g_o2 hf; obtain ⟨h1, hf⟩ := hf; subst h1
        replace hf := Option.some.inj hf; subst hf
        exact g_iret C d_Mo_lighting_80 () rfl
    · replace hf := g_ip h hf
      refine g_aload_n (pc' := 40) C 0 d_Mo_lighting_39 rfl rfl ?_
      refine g_bipush (pc' := 42) (v := 81) C d_Mo_lighting_40 rfl rfl ?_
      replace hf := g_bi hf; obtain ⟨⟨u11, u12⟩, hc13, hf⟩ := hf
      dsimp only at hf
      refine g_callV (pc' := 45) (st1 := []) (ws1 := [O_Mo a_o x_o_code x_o_lamps x_o_at x_o_night x_o_spent x_o_rest x_o_shy a_o_had a_o_told a_o_barred a_o_cost a_o_last a_o_often x_o_hasBegun x_o_doneMany x_o_undoneMany a_o_changeOf a_o_changeAt a_o_before a_o_behind a_o_tape x_o_taped x_o_here x_o_fault x_o_open x_o_laid a_o_act a_o_with a_o_lineMany a_o_testEnd a_o_lineEnd a_o_facts a_o_pile x_o_hasLaw a_o_way a_o_bestWay x_o_bestMany a_o_wasHad a_o_wasLast x_o_wasAt x_o_wasNight x_o_hasImage x_o_keptLamps x_o_keptAt x_o_keptNight x_o_keptSpent a_o_keptHad a_o_keptTold a_o_keptLast a_o_keptOften x_o_bodies a_o_kind u11 a_o_traced a_o_holds a_o_size a_o_elements a_o_shifted, A_I dA a_o_kind 50 x_o_kind, A_I dA a_o_traced 24 u12]) C (c_Mo_ran (l := l) (D := D) (dA := dA) (a_o := a_o) (a_o_had := a_o_had) (a_o_told := a_o_told) (a_o_barred := a_o_barred) (a_o_cost := a_o_cost) (a_o_last := a_o_last) (a_o_often := a_o_often) (a_o_changeOf := a_o_changeOf) (a_o_changeAt := a_o_changeAt) (a_o_before := a_o_before) (a_o_behind := a_o_behind) (a_o_tape := a_o_tape) (a_o_act := a_o_act) (a_o_with := a_o_with) (a_o_lineMany := a_o_lineMany) (a_o_testEnd := a_o_testEnd) (a_o_lineEnd := a_o_lineEnd) (a_o_facts := a_o_facts) (a_o_pile := a_o_pile) (a_o_way := a_o_way) (a_o_bestWay := a_o_bestWay) (a_o_wasHad := a_o_wasHad) (a_o_wasLast := a_o_wasLast) (a_o_keptHad := a_o_keptHad) (a_o_keptTold := a_o_keptTold) (a_o_keptLast := a_o_keptLast) (a_o_keptOften := a_o_keptOften) (a_o_kind := a_o_kind) (a_o_traced := a_o_traced) (a_o_holds := a_o_holds) (a_o_size := a_o_size) (a_o_elements := a_o_elements) (a_o_shifted := a_o_shifted) (x_o_code := x_o_code) (x_o_lamps := x_o_lamps) (x_o_at := x_o_at) (x_o_night := x_o_night) (x_o_spent := x_o_spent) (x_o_rest := x_o_rest) (x_o_shy := x_o_shy) (x_o_hasBegun := x_o_hasBegun) (x_o_doneMany := x_o_doneMany) (x_o_undoneMany := x_o_undoneMany) (x_o_taped := x_o_taped) (x_o_here := x_o_here) (x_o_fault := x_o_fault) (x_o_open := x_o_open) (x_o_laid := x_o_laid) (x_o_hasLaw := x_o_hasLaw) (x_o_bestMany := x_o_bestMany) (x_o_wasAt := x_o_wasAt) (x_o_wasNight := x_o_wasNight) (x_o_hasImage := x_o_hasImage) (x_o_keptLamps := x_o_keptLamps) (x_o_keptAt := x_o_keptAt) (x_o_keptNight := x_o_keptNight) (x_o_keptSpent := x_o_keptSpent) (x_o_bodies := x_o_bodies)   hc13) yy_Mo_ran kf_Mo rfl mw_6_146 d_Mo_lighting_42 rfl [] rfl rfl (Nat.le_of_ble_eq_true rfl) ⟨Nat.le_of_ble_eq_true rfl, Nat.le_of_ble_eq_true rfl⟩ rfl rfl (Nat.zero_le _) (Nat.zero_le _) 0 rfl [0, 2] rfl (by decide +kernel) rfl (g_lay_sel _ _ _ _ [(0, true), (1, false), (1, true)] (by decide +kernel) rfl (by decide +kernel) rfl rfl) rfl ?_
      refine g_aload_n (pc' := 46) C 0 d_Mo_lighting_45 rfl rfl ?_
      refine g_iload_n (pc' := 47) C 1 d_Mo_lighting_46 rfl rfl ?_
      refine g_iload_n (pc' := 48) C 2 d_Mo_lighting_47 rfl rfl ?_
      replace hf := g_bi hf; obtain ⟨⟨r14, u15, u16⟩, hc17, hf⟩ := hf
      dsimp only at hf
      refine g_callV (pc' := 51) (st1 := [.int r14]) (ws1 := [O_Mo a_o x_o_code x_o_lamps x_o_at x_o_night x_o_spent x_o_rest x_o_shy a_o_had a_o_told a_o_barred a_o_cost a_o_last a_o_often x_o_hasBegun x_o_doneMany x_o_undoneMany a_o_changeOf a_o_changeAt a_o_before a_o_behind a_o_tape x_o_taped x_o_here x_o_fault x_o_open x_o_laid a_o_act a_o_with a_o_lineMany a_o_testEnd a_o_lineEnd a_o_facts a_o_pile x_o_hasLaw a_o_way a_o_bestWay x_o_bestMany a_o_wasHad a_o_wasLast x_o_wasAt x_o_wasNight x_o_hasImage x_o_keptLamps x_o_keptAt x_o_keptNight x_o_keptSpent a_o_keptHad a_o_keptTold a_o_keptLast a_o_keptOften x_o_bodies a_o_kind u15 a_o_traced a_o_holds a_o_size a_o_elements a_o_shifted, A_I dA a_o_kind 50 x_o_kind, A_I dA a_o_traced 24 u16]) C (c_Mo_toldLights (l := l) (D := D) (dA := dA) (a_o := a_o) (a_o_had := a_o_had) (a_o_told := a_o_told) (a_o_barred := a_o_barred) (a_o_cost := a_o_cost) (a_o_last := a_o_last) (a_o_often := a_o_often) (a_o_changeOf := a_o_changeOf) (a_o_changeAt := a_o_changeAt) (a_o_before := a_o_before) (a_o_behind := a_o_behind) (a_o_tape := a_o_tape) (a_o_act := a_o_act) (a_o_with := a_o_with) (a_o_lineMany := a_o_lineMany) (a_o_testEnd := a_o_testEnd) (a_o_lineEnd := a_o_lineEnd) (a_o_facts := a_o_facts) (a_o_pile := a_o_pile) (a_o_way := a_o_way) (a_o_bestWay := a_o_bestWay) (a_o_wasHad := a_o_wasHad) (a_o_wasLast := a_o_wasLast) (a_o_keptHad := a_o_keptHad) (a_o_keptTold := a_o_keptTold) (a_o_keptLast := a_o_keptLast) (a_o_keptOften := a_o_keptOften) (a_o_kind := a_o_kind) (a_o_traced := a_o_traced) (a_o_holds := a_o_holds) (a_o_size := a_o_size) (a_o_elements := a_o_elements) (a_o_shifted := a_o_shifted) (x_o_code := x_o_code) (x_o_lamps := x_o_lamps) (x_o_at := x_o_at) (x_o_night := x_o_night) (x_o_spent := x_o_spent) (x_o_rest := x_o_rest) (x_o_shy := x_o_shy) (x_o_hasBegun := x_o_hasBegun) (x_o_doneMany := x_o_doneMany) (x_o_undoneMany := x_o_undoneMany) (x_o_taped := x_o_taped) (x_o_here := x_o_here) (x_o_fault := x_o_fault) (x_o_open := x_o_open) (x_o_laid := x_o_laid) (x_o_hasLaw := x_o_hasLaw) (x_o_bestMany := x_o_bestMany) (x_o_wasAt := x_o_wasAt) (x_o_wasNight := x_o_wasNight) (x_o_hasImage := x_o_hasImage) (x_o_keptLamps := x_o_keptLamps) (x_o_keptAt := x_o_keptAt) (x_o_keptNight := x_o_keptNight) (x_o_keptSpent := x_o_keptSpent) (x_o_bodies := x_o_bodies)   hc17) yy_Mo_toldLights kf_Mo rfl mw_6_154 d_Mo_lighting_48 rfl [] rfl rfl (Nat.le_of_ble_eq_true rfl) ⟨Nat.le_of_ble_eq_true rfl, Nat.le_of_ble_eq_true rfl⟩ rfl rfl (Nat.zero_le _) (Nat.zero_le _) 0 rfl [0, 2] rfl (by decide +kernel) rfl (g_lay_sel _ _ _ _ [(0, true), (1, false), (1, true)] (by decide +kernel) rfl (by decide +kernel) rfl rfl) rfl ?_
      refine g_iconst (pc' := 52) (v := 1) C d_Mo_lighting_51 rfl rfl ?_
      refine g_isub (pc' := 53) C d_Mo_lighting_52 rfl ?_
      replace hf := g_o2 hf; obtain ⟨h1, hf⟩ := hf; subst h1
      replace hf := g_o2 hf; obtain ⟨h1, hf⟩ := hf; subst h1
      replace hf := Option.some.inj hf; subst hf
      exact g_iret C d_Mo_lighting_53 () rfl
  · replace hf := g_bt h hf
    refine g_aload_n (pc' := 14) C 0 d_Mo_lighting_13 rfl rfl ?_
    refine g_bipush (pc' := 16) (v := 20) C d_Mo_lighting_14 rfl rfl ?_
    replace hf := g_bi hf; obtain ⟨⟨u18, u19⟩, hc20, hf⟩ := hf
    dsimp only at hf
    refine g_callV (pc' := 19) (st1 := []) (ws1 := [O_Mo a_o x_o_code x_o_lamps x_o_at x_o_night x_o_spent x_o_rest x_o_shy a_o_had a_o_told a_o_barred a_o_cost a_o_last a_o_often x_o_hasBegun x_o_doneMany x_o_undoneMany a_o_changeOf a_o_changeAt a_o_before a_o_behind a_o_tape x_o_taped x_o_here x_o_fault x_o_open x_o_laid a_o_act a_o_with a_o_lineMany a_o_testEnd a_o_lineEnd a_o_facts a_o_pile x_o_hasLaw a_o_way a_o_bestWay x_o_bestMany a_o_wasHad a_o_wasLast x_o_wasAt x_o_wasNight x_o_hasImage x_o_keptLamps x_o_keptAt x_o_keptNight x_o_keptSpent a_o_keptHad a_o_keptTold a_o_keptLast a_o_keptOften x_o_bodies a_o_kind u18 a_o_traced a_o_holds a_o_size a_o_elements a_o_shifted, A_I dA a_o_kind 50 x_o_kind, A_I dA a_o_traced 24 u19]) C (c_Mo_ran (l := l) (D := D) (dA := dA) (a_o := a_o) (a_o_had := a_o_had) (a_o_told := a_o_told) (a_o_barred := a_o_barred) (a_o_cost := a_o_cost) (a_o_last := a_o_last) (a_o_often := a_o_often) (a_o_changeOf := a_o_changeOf) (a_o_changeAt := a_o_changeAt) (a_o_before := a_o_before) (a_o_behind := a_o_behind) (a_o_tape := a_o_tape) (a_o_act := a_o_act) (a_o_with := a_o_with) (a_o_lineMany := a_o_lineMany) (a_o_testEnd := a_o_testEnd) (a_o_lineEnd := a_o_lineEnd) (a_o_facts := a_o_facts) (a_o_pile := a_o_pile) (a_o_way := a_o_way) (a_o_bestWay := a_o_bestWay) (a_o_wasHad := a_o_wasHad) (a_o_wasLast := a_o_wasLast) (a_o_keptHad := a_o_keptHad) (a_o_keptTold := a_o_keptTold) (a_o_keptLast := a_o_keptLast) (a_o_keptOften := a_o_keptOften) (a_o_kind := a_o_kind) (a_o_traced := a_o_traced) (a_o_holds := a_o_holds) (a_o_size := a_o_size) (a_o_elements := a_o_elements) (a_o_shifted := a_o_shifted) (x_o_code := x_o_code) (x_o_lamps := x_o_lamps) (x_o_at := x_o_at) (x_o_night := x_o_night) (x_o_spent := x_o_spent) (x_o_rest := x_o_rest) (x_o_shy := x_o_shy) (x_o_hasBegun := x_o_hasBegun) (x_o_doneMany := x_o_doneMany) (x_o_undoneMany := x_o_undoneMany) (x_o_taped := x_o_taped) (x_o_here := x_o_here) (x_o_fault := x_o_fault) (x_o_open := x_o_open) (x_o_laid := x_o_laid) (x_o_hasLaw := x_o_hasLaw) (x_o_bestMany := x_o_bestMany) (x_o_wasAt := x_o_wasAt) (x_o_wasNight := x_o_wasNight) (x_o_hasImage := x_o_hasImage) (x_o_keptLamps := x_o_keptLamps) (x_o_keptAt := x_o_keptAt) (x_o_keptNight := x_o_keptNight) (x_o_keptSpent := x_o_keptSpent) (x_o_bodies := x_o_bodies)   hc20) yy_Mo_ran kf_Mo rfl mw_6_146 d_Mo_lighting_16 rfl [] rfl rfl (Nat.le_of_ble_eq_true rfl) ⟨Nat.le_of_ble_eq_true rfl, Nat.le_of_ble_eq_true rfl⟩ rfl rfl (Nat.zero_le _) (Nat.zero_le _) 0 rfl [0, 2] rfl (by decide +kernel) rfl (g_lay_sel _ _ _ _ [(0, true), (1, false), (1, true)] (by decide +kernel) rfl (by decide +kernel) rfl rfl) rfl ?_
    refine g_aload_n (pc' := 20) C 0 d_Mo_lighting_19 rfl rfl ?_
    refine g_iload_n (pc' := 21) C 1 d_Mo_lighting_20 rfl rfl ?_
    refine g_iload_n (pc' := 22) C 2 d_Mo_lighting_21 rfl rfl ?_
    replace hf := g_bi hf; obtain ⟨⟨r21, u22, u23⟩, hc24, hf⟩ := hf
    dsimp only at hf
    refine g_callV (pc' := 25) (st1 := [.int r21]) (ws1 := [O_Mo a_o x_o_code x_o_lamps x_o_at x_o_night x_o_spent x_o_rest x_o_shy a_o_had a_o_told a_o_barred a_o_cost a_o_last a_o_often x_o_hasBegun x_o_doneMany x_o_undoneMany a_o_changeOf a_o_changeAt a_o_before a_o_behind a_o_tape x_o_taped x_o_here x_o_fault x_o_open x_o_laid a_o_act a_o_with a_o_lineMany a_o_testEnd a_o_lineEnd a_o_facts a_o_pile x_o_hasLaw a_o_way a_o_bestWay x_o_bestMany a_o_wasHad a_o_wasLast x_o_wasAt x_o_wasNight x_o_hasImage x_o_keptLamps x_o_keptAt x_o_keptNight x_o_keptSpent a_o_keptHad a_o_keptTold a_o_keptLast a_o_keptOften x_o_bodies a_o_kind u22 a_o_traced a_o_holds a_o_size a_o_elements a_o_shifted, A_I dA a_o_kind 50 x_o_kind, A_I dA a_o_traced 24 u23]) C (c_Mo_plainLights (l := l) (D := D) (dA := dA) (a_o := a_o) (a_o_had := a_o_had) (a_o_told := a_o_told) (a_o_barred := a_o_barred) (a_o_cost := a_o_cost) (a_o_last := a_o_last) (a_o_often := a_o_often) (a_o_changeOf := a_o_changeOf) (a_o_changeAt := a_o_changeAt) (a_o_before := a_o_before) (a_o_behind := a_o_behind) (a_o_tape := a_o_tape) (a_o_act := a_o_act) (a_o_with := a_o_with) (a_o_lineMany := a_o_lineMany) (a_o_testEnd := a_o_testEnd) (a_o_lineEnd := a_o_lineEnd) (a_o_facts := a_o_facts) (a_o_pile := a_o_pile) (a_o_way := a_o_way) (a_o_bestWay := a_o_bestWay) (a_o_wasHad := a_o_wasHad) (a_o_wasLast := a_o_wasLast) (a_o_keptHad := a_o_keptHad) (a_o_keptTold := a_o_keptTold) (a_o_keptLast := a_o_keptLast) (a_o_keptOften := a_o_keptOften) (a_o_kind := a_o_kind) (a_o_traced := a_o_traced) (a_o_holds := a_o_holds) (a_o_size := a_o_size) (a_o_elements := a_o_elements) (a_o_shifted := a_o_shifted) (x_o_code := x_o_code) (x_o_lamps := x_o_lamps) (x_o_at := x_o_at) (x_o_night := x_o_night) (x_o_spent := x_o_spent) (x_o_rest := x_o_rest) (x_o_shy := x_o_shy) (x_o_hasBegun := x_o_hasBegun) (x_o_doneMany := x_o_doneMany) (x_o_undoneMany := x_o_undoneMany) (x_o_taped := x_o_taped) (x_o_here := x_o_here) (x_o_fault := x_o_fault) (x_o_open := x_o_open) (x_o_laid := x_o_laid) (x_o_hasLaw := x_o_hasLaw) (x_o_bestMany := x_o_bestMany) (x_o_wasAt := x_o_wasAt) (x_o_wasNight := x_o_wasNight) (x_o_hasImage := x_o_hasImage) (x_o_keptLamps := x_o_keptLamps) (x_o_keptAt := x_o_keptAt) (x_o_keptNight := x_o_keptNight) (x_o_keptSpent := x_o_keptSpent) (x_o_bodies := x_o_bodies)   hc24) yy_Mo_plainLights kf_Mo rfl mw_6_150 d_Mo_lighting_22 rfl [] rfl rfl (Nat.le_of_ble_eq_true rfl) ⟨Nat.le_of_ble_eq_true rfl, Nat.le_of_ble_eq_true rfl⟩ rfl rfl (Nat.zero_le _) (Nat.zero_le _) 0 rfl [0, 2] rfl (by decide +kernel) rfl (g_lay_sel _ _ _ _ [(0, true), (1, false), (1, true)] (by decide +kernel) rfl (by decide +kernel) rfl rfl) rfl ?_
    refine g_iconst (pc' := 26) (v := 3) C d_Mo_lighting_25 rfl rfl ?_
    refine g_iadd (pc' := 27) C d_Mo_lighting_26 rfl ?_
    replace hf := g_o2 hf; obtain ⟨h1, hf⟩ := hf; subst h1
    replace hf := g_o2 hf; obtain ⟨h1, hf⟩ := hf; subst h1
    replace hf := Option.some.inj hf; subst hf
    exact g_iret C d_Mo_lighting_27 () rfl
def y_Mo_plainShows : MethodName := ⟨"OneLampModel", "plainShows", "(II)I"⟩
theorem yy_Mo_plainShows : YV y_Mo_plainShows prog_13_method_83_code 3 (some .int) 2 := ⟨mw_6_169, mw_1_12, mw_6_168, tm_s (y := y_Mo_plainShows) (n := 58) (by decide +kernel), by decide +kernel, by decide +kernel, by decide +kernel⟩
theorem d_Mo_plainShows_0 : decode prog_13_method_83_code 0 = .ok (.aload_n 0, 1) := by decide +kernel
theorem d_Mo_plainShows_1 : decode prog_13_method_83_code 1 = .ok (.bipush 10, 2) := by decide +kernel
theorem d_Mo_plainShows_3 : decode prog_13_method_83_code 3 = .ok (.invokevirtual 354, 3) := by decide +kernel
theorem d_Mo_plainShows_6 : decode prog_13_method_83_code 6 = .ok (.aload_n 0, 1) := by decide +kernel
theorem d_Mo_plainShows_7 : decode prog_13_method_83_code 7 = .ok (.iload_n 1, 1) := by decide +kernel
theorem d_Mo_plainShows_8 : decode prog_13_method_83_code 8 = .ok (.iload_n 2, 1) := by decide +kernel
theorem d_Mo_plainShows_9 : decode prog_13_method_83_code 9 = .ok (.invokevirtual 367, 3) := by decide +kernel
theorem d_Mo_plainShows_12 : decode prog_13_method_83_code 12 = .ok (.iconst 2, 1) := by decide +kernel
theorem d_Mo_plainShows_13 : decode prog_13_method_83_code 13 = .ok (.imul, 1) := by decide +kernel
theorem d_Mo_plainShows_14 : decode prog_13_method_83_code 14 = .ok (.ireturn, 1) := by decide +kernel
def f_Mo_plainShows  (p1 : Int32) (p2 : Int32) (x_o_traces : Int32) (x_o_traced : Nat → Int32) (x_o_kind : Nat → Int32) : Option (Int32 × Int32 × (Nat → Int32)) :=
  (f_Mo_ran  (10 : Int32) x_o_traces x_o_traced).bind fun (u1, u2) =>
  (f_Mo_lighting  p1 p2 u1 x_o_kind u2).bind fun (r4, u5, u6) =>
  some ((r4 * (2 : Int32)), u5, u6)
set_option maxRecDepth 20000 in
theorem c_Mo_plainShows {l : Launch} {D : va_G} {dA : Nat → ClassId} {a_o a_o_had a_o_told a_o_barred a_o_cost a_o_last a_o_often a_o_changeOf a_o_changeAt a_o_before a_o_behind a_o_tape a_o_act a_o_with a_o_lineMany a_o_testEnd a_o_lineEnd a_o_facts a_o_pile a_o_way a_o_bestWay a_o_wasHad a_o_wasLast a_o_keptHad a_o_keptTold a_o_keptLast a_o_keptOften a_o_kind a_o_traced a_o_holds a_o_size a_o_elements a_o_shifted : Nat} {x_o_code : Int32} {x_o_lamps : Int32} {x_o_at : Int32} {x_o_night : Int32} {x_o_spent : Int32} {x_o_rest : Int32} {x_o_shy : Int32} {x_o_hasBegun : Bool} {x_o_doneMany : Int32} {x_o_undoneMany : Int32} {x_o_taped : Int32} {x_o_here : Int32} {x_o_fault : Int32} {x_o_open : Int32} {x_o_laid : Int32} {x_o_hasLaw : Bool} {x_o_bestMany : Int32} {x_o_wasAt : Int32} {x_o_wasNight : Int32} {x_o_hasImage : Bool} {x_o_keptLamps : Int32} {x_o_keptAt : Int32} {x_o_keptNight : Int32} {x_o_keptSpent : Int32} {x_o_bodies : Int32} {p1 : Int32} {p2 : Int32} {x_o_traces : Int32} {x_o_traced : Nat → Int32} {x_o_kind : Nat → Int32} {r0 : Int32} {o_x_o_traces : Int32} {o_x_o_traced : Nat → Int32}   (hf : f_Mo_plainShows  p1 p2 x_o_traces x_o_traced x_o_kind = some (r0, o_x_o_traces, o_x_o_traced)) : CT l y_Mo_plainShows prog_13_method_83_code 3 (some .int) { frames := 4, cells := 0, slots := 0, locals := 87 } D dA [.ref a_o, .int p1, .int p2] [O_Mo a_o x_o_code x_o_lamps x_o_at x_o_night x_o_spent x_o_rest x_o_shy a_o_had a_o_told a_o_barred a_o_cost a_o_last a_o_often x_o_hasBegun x_o_doneMany x_o_undoneMany a_o_changeOf a_o_changeAt a_o_before a_o_behind a_o_tape x_o_taped x_o_here x_o_fault x_o_open x_o_laid a_o_act a_o_with a_o_lineMany a_o_testEnd a_o_lineEnd a_o_facts a_o_pile x_o_hasLaw a_o_way a_o_bestWay x_o_bestMany a_o_wasHad a_o_wasLast x_o_wasAt x_o_wasNight x_o_hasImage x_o_keptLamps x_o_keptAt x_o_keptNight x_o_keptSpent a_o_keptHad a_o_keptTold a_o_keptLast a_o_keptOften x_o_bodies a_o_kind x_o_traces a_o_traced a_o_holds a_o_size a_o_elements a_o_shifted, A_I dA a_o_traced 24 x_o_traced, A_I dA a_o_kind 50 x_o_kind] (some (.int r0)) (fun _ : Unit => [O_Mo a_o x_o_code x_o_lamps x_o_at x_o_night x_o_spent x_o_rest x_o_shy a_o_had a_o_told a_o_barred a_o_cost a_o_last a_o_often x_o_hasBegun x_o_doneMany x_o_undoneMany a_o_changeOf a_o_changeAt a_o_before a_o_behind a_o_tape x_o_taped x_o_here x_o_fault x_o_open x_o_laid a_o_act a_o_with a_o_lineMany a_o_testEnd a_o_lineEnd a_o_facts a_o_pile x_o_hasLaw a_o_way a_o_bestWay x_o_bestMany a_o_wasHad a_o_wasLast x_o_wasAt x_o_wasNight x_o_hasImage x_o_keptLamps x_o_keptAt x_o_keptNight x_o_keptSpent a_o_keptHad a_o_keptTold a_o_keptLast a_o_keptOften x_o_bodies a_o_kind o_x_o_traces a_o_traced a_o_holds a_o_size a_o_elements a_o_shifted, A_I dA a_o_traced 24 o_x_o_traced, A_I dA a_o_kind 50 x_o_kind]) := by
  refine ct_intro "OneLampModel" rfl (by decide +kernel) (Nat.le_of_ble_eq_true rfl) [(0, .ref a_o), (1, .int p1), (2, .int p2)] rfl (fun _ C => ?_)
  unfold f_Mo_plainShows at hf
  refine g_aload_n (pc' := 1) C 0 d_Mo_plainShows_0 rfl rfl ?_
  refine g_bipush (pc' := 3) (v := 10) C d_Mo_plainShows_1 rfl rfl ?_
  replace hf := g_bi hf; obtain ⟨⟨u1, u2⟩, hc3, hf⟩ := hf
  dsimp only at hf
  refine g_callV (pc' := 6) (st1 := []) (ws1 := [O_Mo a_o x_o_code x_o_lamps x_o_at x_o_night x_o_spent x_o_rest x_o_shy a_o_had a_o_told a_o_barred a_o_cost a_o_last a_o_often x_o_hasBegun x_o_doneMany x_o_undoneMany a_o_changeOf a_o_changeAt a_o_before a_o_behind a_o_tape x_o_taped x_o_here x_o_fault x_o_open x_o_laid a_o_act a_o_with a_o_lineMany a_o_testEnd a_o_lineEnd a_o_facts a_o_pile x_o_hasLaw a_o_way a_o_bestWay x_o_bestMany a_o_wasHad a_o_wasLast x_o_wasAt x_o_wasNight x_o_hasImage x_o_keptLamps x_o_keptAt x_o_keptNight x_o_keptSpent a_o_keptHad a_o_keptTold a_o_keptLast a_o_keptOften x_o_bodies a_o_kind u1 a_o_traced a_o_holds a_o_size a_o_elements a_o_shifted, A_I dA a_o_traced 24 u2, A_I dA a_o_kind 50 x_o_kind]) C (c_Mo_ran (l := l) (D := D) (dA := dA) (a_o := a_o) (a_o_had := a_o_had) (a_o_told := a_o_told) (a_o_barred := a_o_barred) (a_o_cost := a_o_cost) (a_o_last := a_o_last) (a_o_often := a_o_often) (a_o_changeOf := a_o_changeOf) (a_o_changeAt := a_o_changeAt) (a_o_before := a_o_before) (a_o_behind := a_o_behind) (a_o_tape := a_o_tape) (a_o_act := a_o_act) (a_o_with := a_o_with) (a_o_lineMany := a_o_lineMany) (a_o_testEnd := a_o_testEnd) (a_o_lineEnd := a_o_lineEnd) (a_o_facts := a_o_facts) (a_o_pile := a_o_pile) (a_o_way := a_o_way) (a_o_bestWay := a_o_bestWay) (a_o_wasHad := a_o_wasHad) (a_o_wasLast := a_o_wasLast) (a_o_keptHad := a_o_keptHad) (a_o_keptTold := a_o_keptTold) (a_o_keptLast := a_o_keptLast) (a_o_keptOften := a_o_keptOften) (a_o_kind := a_o_kind) (a_o_traced := a_o_traced) (a_o_holds := a_o_holds) (a_o_size := a_o_size) (a_o_elements := a_o_elements) (a_o_shifted := a_o_shifted) (x_o_code := x_o_code) (x_o_lamps := x_o_lamps) (x_o_at := x_o_at) (x_o_night := x_o_night) (x_o_spent := x_o_spent) (x_o_rest := x_o_rest) (x_o_shy := x_o_shy) (x_o_hasBegun := x_o_hasBegun) (x_o_doneMany := x_o_doneMany) (x_o_undoneMany := x_o_undoneMany) (x_o_taped := x_o_taped) (x_o_here := x_o_here) (x_o_fault := x_o_fault) (x_o_open := x_o_open) (x_o_laid := x_o_laid) (x_o_hasLaw := x_o_hasLaw) (x_o_bestMany := x_o_bestMany) (x_o_wasAt := x_o_wasAt) (x_o_wasNight := x_o_wasNight) (x_o_hasImage := x_o_hasImage) (x_o_keptLamps := x_o_keptLamps) (x_o_keptAt := x_o_keptAt) (x_o_keptNight := x_o_keptNight) (x_o_keptSpent := x_o_keptSpent) (x_o_bodies := x_o_bodies)   hc3) yy_Mo_ran kf_Mo rfl mw_6_146 d_Mo_plainShows_3 rfl [] rfl rfl (Nat.le_of_ble_eq_true rfl) ⟨Nat.le_of_ble_eq_true rfl, Nat.le_of_ble_eq_true rfl⟩ rfl rfl (Nat.zero_le _) (Nat.zero_le _) 0 rfl [0, 1] rfl (by decide +kernel) rfl (g_lay_sel _ _ _ _ [(0, true), (1, true), (2, false)] (by decide +kernel) rfl (by decide +kernel) rfl rfl) rfl ?_
  refine g_aload_n (pc' := 7) C 0 d_Mo_plainShows_6 rfl rfl ?_
  refine g_iload_n (pc' := 8) C 1 d_Mo_plainShows_7 rfl rfl ?_
  refine g_iload_n (pc' := 9) C 2 d_Mo_plainShows_8 rfl rfl ?_
  replace hf := g_bi hf; obtain ⟨⟨r4, u5, u6⟩, hc7, hf⟩ := hf
  dsimp only at hf
  refine g_callV (pc' := 12) (st1 := [.int r4]) (ws1 := [O_Mo a_o x_o_code x_o_lamps x_o_at x_o_night x_o_spent x_o_rest x_o_shy a_o_had a_o_told a_o_barred a_o_cost a_o_last a_o_often x_o_hasBegun x_o_doneMany x_o_undoneMany a_o_changeOf a_o_changeAt a_o_before a_o_behind a_o_tape x_o_taped x_o_here x_o_fault x_o_open x_o_laid a_o_act a_o_with a_o_lineMany a_o_testEnd a_o_lineEnd a_o_facts a_o_pile x_o_hasLaw a_o_way a_o_bestWay x_o_bestMany a_o_wasHad a_o_wasLast x_o_wasAt x_o_wasNight x_o_hasImage x_o_keptLamps x_o_keptAt x_o_keptNight x_o_keptSpent a_o_keptHad a_o_keptTold a_o_keptLast a_o_keptOften x_o_bodies a_o_kind u5 a_o_traced a_o_holds a_o_size a_o_elements a_o_shifted, A_I dA a_o_traced 24 u6, A_I dA a_o_kind 50 x_o_kind]) C (c_Mo_lighting (l := l) (D := D) (dA := dA) (a_o := a_o) (a_o_had := a_o_had) (a_o_told := a_o_told) (a_o_barred := a_o_barred) (a_o_cost := a_o_cost) (a_o_last := a_o_last) (a_o_often := a_o_often) (a_o_changeOf := a_o_changeOf) (a_o_changeAt := a_o_changeAt) (a_o_before := a_o_before) (a_o_behind := a_o_behind) (a_o_tape := a_o_tape) (a_o_act := a_o_act) (a_o_with := a_o_with) (a_o_lineMany := a_o_lineMany) (a_o_testEnd := a_o_testEnd) (a_o_lineEnd := a_o_lineEnd) (a_o_facts := a_o_facts) (a_o_pile := a_o_pile) (a_o_way := a_o_way) (a_o_bestWay := a_o_bestWay) (a_o_wasHad := a_o_wasHad) (a_o_wasLast := a_o_wasLast) (a_o_keptHad := a_o_keptHad) (a_o_keptTold := a_o_keptTold) (a_o_keptLast := a_o_keptLast) (a_o_keptOften := a_o_keptOften) (a_o_kind := a_o_kind) (a_o_traced := a_o_traced) (a_o_holds := a_o_holds) (a_o_size := a_o_size) (a_o_elements := a_o_elements) (a_o_shifted := a_o_shifted) (x_o_code := x_o_code) (x_o_lamps := x_o_lamps) (x_o_at := x_o_at) (x_o_night := x_o_night) (x_o_spent := x_o_spent) (x_o_rest := x_o_rest) (x_o_shy := x_o_shy) (x_o_hasBegun := x_o_hasBegun) (x_o_doneMany := x_o_doneMany) (x_o_undoneMany := x_o_undoneMany) (x_o_taped := x_o_taped) (x_o_here := x_o_here) (x_o_fault := x_o_fault) (x_o_open := x_o_open) (x_o_laid := x_o_laid) (x_o_hasLaw := x_o_hasLaw) (x_o_bestMany := x_o_bestMany) (x_o_wasAt := x_o_wasAt) (x_o_wasNight := x_o_wasNight) (x_o_hasImage := x_o_hasImage) (x_o_keptLamps := x_o_keptLamps) (x_o_keptAt := x_o_keptAt) (x_o_keptNight := x_o_keptNight) (x_o_keptSpent := x_o_keptSpent) (x_o_bodies := x_o_bodies)   hc7) yy_Mo_lighting kf_Mo rfl mw_6_139 d_Mo_plainShows_9 rfl [] rfl rfl (Nat.le_of_ble_eq_true rfl) ⟨Nat.le_of_ble_eq_true rfl, Nat.le_of_ble_eq_true rfl⟩ rfl rfl (Nat.zero_le _) (Nat.zero_le _) 0 rfl [0, 2, 1] rfl (by decide +kernel) rfl (g_lay_sel _ _ _ _ [(0, true), (2, true), (1, true)] (by decide +kernel) rfl (by decide +kernel) rfl rfl) rfl ?_
  refine g_iconst (pc' := 13) (v := 2) C d_Mo_plainShows_12 rfl rfl ?_
  refine g_imul (pc' := 14) C d_Mo_plainShows_13 rfl ?_
  replace hf := g_o2 hf; obtain ⟨h1, hf⟩ := hf; subst h1
  replace hf := g_o2 hf; obtain ⟨h1, hf⟩ := hf; subst h1
  replace hf := Option.some.inj hf; subst hf
  exact g_iret C d_Mo_plainShows_14 () rfl
def y_Mo_evenShows : MethodName := ⟨"OneLampModel", "evenShows", "(II)I"⟩
theorem yy_Mo_evenShows : YV y_Mo_evenShows prog_13_method_84_code 3 (some .int) 2 := ⟨mw_6_165, mw_1_12, mw_6_164, tm_s (y := y_Mo_evenShows) (n := 58) (by decide +kernel), by decide +kernel, by decide +kernel, by decide +kernel⟩
theorem d_Mo_evenShows_0 : decode prog_13_method_84_code 0 = .ok (.aload_n 0, 1) := by decide +kernel
theorem d_Mo_evenShows_1 : decode prog_13_method_84_code 1 = .ok (.bipush 30, 2) := by decide +kernel
theorem d_Mo_evenShows_3 : decode prog_13_method_84_code 3 = .ok (.invokevirtual 354, 3) := by decide +kernel
theorem d_Mo_evenShows_6 : decode prog_13_method_84_code 6 = .ok (.aload_n 0, 1) := by decide +kernel
theorem d_Mo_evenShows_7 : decode prog_13_method_84_code 7 = .ok (.iload_n 1, 1) := by decide +kernel
theorem d_Mo_evenShows_8 : decode prog_13_method_84_code 8 = .ok (.iload_n 2, 1) := by decide +kernel
theorem d_Mo_evenShows_9 : decode prog_13_method_84_code 9 = .ok (.invokevirtual 370, 3) := by decide +kernel
theorem d_Mo_evenShows_12 : decode prog_13_method_84_code 12 = .ok (.ineg, 1) := by decide +kernel
theorem d_Mo_evenShows_13 : decode prog_13_method_84_code 13 = .ok (.ireturn, 1) := by decide +kernel
def f_Mo_evenShows  (p1 : Int32) (p2 : Int32) (x_o_traces : Int32) (x_o_traced : Nat → Int32) (x_o_kind : Nat → Int32) : Option (Int32 × Int32 × (Nat → Int32)) :=
  (f_Mo_ran  (30 : Int32) x_o_traces x_o_traced).bind fun (u1, u2) =>
  (f_Mo_plainShows  p1 p2 u1 u2 x_o_kind).bind fun (r4, u5, u6) =>
  some ((-r4), u5, u6)
set_option maxRecDepth 20000 in
theorem c_Mo_evenShows {l : Launch} {D : va_G} {dA : Nat → ClassId} {a_o a_o_had a_o_told a_o_barred a_o_cost a_o_last a_o_often a_o_changeOf a_o_changeAt a_o_before a_o_behind a_o_tape a_o_act a_o_with a_o_lineMany a_o_testEnd a_o_lineEnd a_o_facts a_o_pile a_o_way a_o_bestWay a_o_wasHad a_o_wasLast a_o_keptHad a_o_keptTold a_o_keptLast a_o_keptOften a_o_kind a_o_traced a_o_holds a_o_size a_o_elements a_o_shifted : Nat} {x_o_code : Int32} {x_o_lamps : Int32} {x_o_at : Int32} {x_o_night : Int32} {x_o_spent : Int32} {x_o_rest : Int32} {x_o_shy : Int32} {x_o_hasBegun : Bool} {x_o_doneMany : Int32} {x_o_undoneMany : Int32} {x_o_taped : Int32} {x_o_here : Int32} {x_o_fault : Int32} {x_o_open : Int32} {x_o_laid : Int32} {x_o_hasLaw : Bool} {x_o_bestMany : Int32} {x_o_wasAt : Int32} {x_o_wasNight : Int32} {x_o_hasImage : Bool} {x_o_keptLamps : Int32} {x_o_keptAt : Int32} {x_o_keptNight : Int32} {x_o_keptSpent : Int32} {x_o_bodies : Int32} {p1 : Int32} {p2 : Int32} {x_o_traces : Int32} {x_o_traced : Nat → Int32} {x_o_kind : Nat → Int32} {r0 : Int32} {o_x_o_traces : Int32} {o_x_o_traced : Nat → Int32}   (hf : f_Mo_evenShows  p1 p2 x_o_traces x_o_traced x_o_kind = some (r0, o_x_o_traces, o_x_o_traced)) : CT l y_Mo_evenShows prog_13_method_84_code 3 (some .int) { frames := 5, cells := 0, slots := 0, locals := 109 } D dA [.ref a_o, .int p1, .int p2] [O_Mo a_o x_o_code x_o_lamps x_o_at x_o_night x_o_spent x_o_rest x_o_shy a_o_had a_o_told a_o_barred a_o_cost a_o_last a_o_often x_o_hasBegun x_o_doneMany x_o_undoneMany a_o_changeOf a_o_changeAt a_o_before a_o_behind a_o_tape x_o_taped x_o_here x_o_fault x_o_open x_o_laid a_o_act a_o_with a_o_lineMany a_o_testEnd a_o_lineEnd a_o_facts a_o_pile x_o_hasLaw a_o_way a_o_bestWay x_o_bestMany a_o_wasHad a_o_wasLast x_o_wasAt x_o_wasNight x_o_hasImage x_o_keptLamps x_o_keptAt x_o_keptNight x_o_keptSpent a_o_keptHad a_o_keptTold a_o_keptLast a_o_keptOften x_o_bodies a_o_kind x_o_traces a_o_traced a_o_holds a_o_size a_o_elements a_o_shifted, A_I dA a_o_traced 24 x_o_traced, A_I dA a_o_kind 50 x_o_kind] (some (.int r0)) (fun _ : Unit => [O_Mo a_o x_o_code x_o_lamps x_o_at x_o_night x_o_spent x_o_rest x_o_shy a_o_had a_o_told a_o_barred a_o_cost a_o_last a_o_often x_o_hasBegun x_o_doneMany x_o_undoneMany a_o_changeOf a_o_changeAt a_o_before a_o_behind a_o_tape x_o_taped x_o_here x_o_fault x_o_open x_o_laid a_o_act a_o_with a_o_lineMany a_o_testEnd a_o_lineEnd a_o_facts a_o_pile x_o_hasLaw a_o_way a_o_bestWay x_o_bestMany a_o_wasHad a_o_wasLast x_o_wasAt x_o_wasNight x_o_hasImage x_o_keptLamps x_o_keptAt x_o_keptNight x_o_keptSpent a_o_keptHad a_o_keptTold a_o_keptLast a_o_keptOften x_o_bodies a_o_kind o_x_o_traces a_o_traced a_o_holds a_o_size a_o_elements a_o_shifted, A_I dA a_o_traced 24 o_x_o_traced, A_I dA a_o_kind 50 x_o_kind]) := by
  refine ct_intro "OneLampModel" rfl (by decide +kernel) (Nat.le_of_ble_eq_true rfl) [(0, .ref a_o), (1, .int p1), (2, .int p2)] rfl (fun _ C => ?_)
  unfold f_Mo_evenShows at hf
  refine g_aload_n (pc' := 1) C 0 d_Mo_evenShows_0 rfl rfl ?_
  refine g_bipush (pc' := 3) (v := 30) C d_Mo_evenShows_1 rfl rfl ?_
  replace hf := g_bi hf; obtain ⟨⟨u1, u2⟩, hc3, hf⟩ := hf
  dsimp only at hf
  refine g_callV (pc' := 6) (st1 := []) (ws1 := [O_Mo a_o x_o_code x_o_lamps x_o_at x_o_night x_o_spent x_o_rest x_o_shy a_o_had a_o_told a_o_barred a_o_cost a_o_last a_o_often x_o_hasBegun x_o_doneMany x_o_undoneMany a_o_changeOf a_o_changeAt a_o_before a_o_behind a_o_tape x_o_taped x_o_here x_o_fault x_o_open x_o_laid a_o_act a_o_with a_o_lineMany a_o_testEnd a_o_lineEnd a_o_facts a_o_pile x_o_hasLaw a_o_way a_o_bestWay x_o_bestMany a_o_wasHad a_o_wasLast x_o_wasAt x_o_wasNight x_o_hasImage x_o_keptLamps x_o_keptAt x_o_keptNight x_o_keptSpent a_o_keptHad a_o_keptTold a_o_keptLast a_o_keptOften x_o_bodies a_o_kind u1 a_o_traced a_o_holds a_o_size a_o_elements a_o_shifted, A_I dA a_o_traced 24 u2, A_I dA a_o_kind 50 x_o_kind]) C (c_Mo_ran (l := l) (D := D) (dA := dA) (a_o := a_o) (a_o_had := a_o_had) (a_o_told := a_o_told) (a_o_barred := a_o_barred) (a_o_cost := a_o_cost) (a_o_last := a_o_last) (a_o_often := a_o_often) (a_o_changeOf := a_o_changeOf) (a_o_changeAt := a_o_changeAt) (a_o_before := a_o_before) (a_o_behind := a_o_behind) (a_o_tape := a_o_tape) (a_o_act := a_o_act) (a_o_with := a_o_with) (a_o_lineMany := a_o_lineMany) (a_o_testEnd := a_o_testEnd) (a_o_lineEnd := a_o_lineEnd) (a_o_facts := a_o_facts) (a_o_pile := a_o_pile) (a_o_way := a_o_way) (a_o_bestWay := a_o_bestWay) (a_o_wasHad := a_o_wasHad) (a_o_wasLast := a_o_wasLast) (a_o_keptHad := a_o_keptHad) (a_o_keptTold := a_o_keptTold) (a_o_keptLast := a_o_keptLast) (a_o_keptOften := a_o_keptOften) (a_o_kind := a_o_kind) (a_o_traced := a_o_traced) (a_o_holds := a_o_holds) (a_o_size := a_o_size) (a_o_elements := a_o_elements) (a_o_shifted := a_o_shifted) (x_o_code := x_o_code) (x_o_lamps := x_o_lamps) (x_o_at := x_o_at) (x_o_night := x_o_night) (x_o_spent := x_o_spent) (x_o_rest := x_o_rest) (x_o_shy := x_o_shy) (x_o_hasBegun := x_o_hasBegun) (x_o_doneMany := x_o_doneMany) (x_o_undoneMany := x_o_undoneMany) (x_o_taped := x_o_taped) (x_o_here := x_o_here) (x_o_fault := x_o_fault) (x_o_open := x_o_open) (x_o_laid := x_o_laid) (x_o_hasLaw := x_o_hasLaw) (x_o_bestMany := x_o_bestMany) (x_o_wasAt := x_o_wasAt) (x_o_wasNight := x_o_wasNight) (x_o_hasImage := x_o_hasImage) (x_o_keptLamps := x_o_keptLamps) (x_o_keptAt := x_o_keptAt) (x_o_keptNight := x_o_keptNight) (x_o_keptSpent := x_o_keptSpent) (x_o_bodies := x_o_bodies)   hc3) yy_Mo_ran kf_Mo rfl mw_6_146 d_Mo_evenShows_3 rfl [] rfl rfl (Nat.le_of_ble_eq_true rfl) ⟨Nat.le_of_ble_eq_true rfl, Nat.le_of_ble_eq_true rfl⟩ rfl rfl (Nat.zero_le _) (Nat.zero_le _) 0 rfl [0, 1] rfl (by decide +kernel) rfl (g_lay_sel _ _ _ _ [(0, true), (1, true), (2, false)] (by decide +kernel) rfl (by decide +kernel) rfl rfl) rfl ?_
  refine g_aload_n (pc' := 7) C 0 d_Mo_evenShows_6 rfl rfl ?_
  refine g_iload_n (pc' := 8) C 1 d_Mo_evenShows_7 rfl rfl ?_
  refine g_iload_n (pc' := 9) C 2 d_Mo_evenShows_8 rfl rfl ?_
  replace hf := g_bi hf; obtain ⟨⟨r4, u5, u6⟩, hc7, hf⟩ := hf
  dsimp only at hf
  refine g_callV (pc' := 12) (st1 := [.int r4]) (ws1 := [O_Mo a_o x_o_code x_o_lamps x_o_at x_o_night x_o_spent x_o_rest x_o_shy a_o_had a_o_told a_o_barred a_o_cost a_o_last a_o_often x_o_hasBegun x_o_doneMany x_o_undoneMany a_o_changeOf a_o_changeAt a_o_before a_o_behind a_o_tape x_o_taped x_o_here x_o_fault x_o_open x_o_laid a_o_act a_o_with a_o_lineMany a_o_testEnd a_o_lineEnd a_o_facts a_o_pile x_o_hasLaw a_o_way a_o_bestWay x_o_bestMany a_o_wasHad a_o_wasLast x_o_wasAt x_o_wasNight x_o_hasImage x_o_keptLamps x_o_keptAt x_o_keptNight x_o_keptSpent a_o_keptHad a_o_keptTold a_o_keptLast a_o_keptOften x_o_bodies a_o_kind u5 a_o_traced a_o_holds a_o_size a_o_elements a_o_shifted, A_I dA a_o_traced 24 u6, A_I dA a_o_kind 50 x_o_kind]) C (c_Mo_plainShows (l := l) (D := D) (dA := dA) (a_o := a_o) (a_o_had := a_o_had) (a_o_told := a_o_told) (a_o_barred := a_o_barred) (a_o_cost := a_o_cost) (a_o_last := a_o_last) (a_o_often := a_o_often) (a_o_changeOf := a_o_changeOf) (a_o_changeAt := a_o_changeAt) (a_o_before := a_o_before) (a_o_behind := a_o_behind) (a_o_tape := a_o_tape) (a_o_act := a_o_act) (a_o_with := a_o_with) (a_o_lineMany := a_o_lineMany) (a_o_testEnd := a_o_testEnd) (a_o_lineEnd := a_o_lineEnd) (a_o_facts := a_o_facts) (a_o_pile := a_o_pile) (a_o_way := a_o_way) (a_o_bestWay := a_o_bestWay) (a_o_wasHad := a_o_wasHad) (a_o_wasLast := a_o_wasLast) (a_o_keptHad := a_o_keptHad) (a_o_keptTold := a_o_keptTold) (a_o_keptLast := a_o_keptLast) (a_o_keptOften := a_o_keptOften) (a_o_kind := a_o_kind) (a_o_traced := a_o_traced) (a_o_holds := a_o_holds) (a_o_size := a_o_size) (a_o_elements := a_o_elements) (a_o_shifted := a_o_shifted) (x_o_code := x_o_code) (x_o_lamps := x_o_lamps) (x_o_at := x_o_at) (x_o_night := x_o_night) (x_o_spent := x_o_spent) (x_o_rest := x_o_rest) (x_o_shy := x_o_shy) (x_o_hasBegun := x_o_hasBegun) (x_o_doneMany := x_o_doneMany) (x_o_undoneMany := x_o_undoneMany) (x_o_taped := x_o_taped) (x_o_here := x_o_here) (x_o_fault := x_o_fault) (x_o_open := x_o_open) (x_o_laid := x_o_laid) (x_o_hasLaw := x_o_hasLaw) (x_o_bestMany := x_o_bestMany) (x_o_wasAt := x_o_wasAt) (x_o_wasNight := x_o_wasNight) (x_o_hasImage := x_o_hasImage) (x_o_keptLamps := x_o_keptLamps) (x_o_keptAt := x_o_keptAt) (x_o_keptNight := x_o_keptNight) (x_o_keptSpent := x_o_keptSpent) (x_o_bodies := x_o_bodies)   hc7) yy_Mo_plainShows kf_Mo rfl mw_6_166 d_Mo_evenShows_9 rfl [] rfl rfl (Nat.le_of_ble_eq_true rfl) ⟨Nat.le_of_ble_eq_true rfl, Nat.le_of_ble_eq_true rfl⟩ rfl rfl (Nat.zero_le _) (Nat.zero_le _) 0 rfl [0, 1, 2] rfl (by decide +kernel) rfl (g_lay_sel _ _ _ _ [(0, true), (1, true), (2, true)] (by decide +kernel) rfl (by decide +kernel) rfl rfl) rfl ?_
  refine g_ineg (pc' := 13) C d_Mo_evenShows_12 rfl ?_
  replace hf := g_o2 hf; obtain ⟨h1, hf⟩ := hf; subst h1
  replace hf := g_o2 hf; obtain ⟨h1, hf⟩ := hf; subst h1
  replace hf := Option.some.inj hf; subst hf
  exact g_iret C d_Mo_evenShows_13 () rfl
def y_Mo_plainRests : MethodName := ⟨"OneLampModel", "plainRests", "(II)I"⟩
theorem yy_Mo_plainRests : YV y_Mo_plainRests prog_13_method_86_code 3 (some .int) 2 := ⟨mw_6_177, mw_1_12, mw_6_176, tm_s (y := y_Mo_plainRests) (n := 58) (by decide +kernel), by decide +kernel, by decide +kernel, by decide +kernel⟩
theorem d_Mo_plainRests_0 : decode prog_13_method_86_code 0 = .ok (.aload_n 0, 1) := by decide +kernel
theorem d_Mo_plainRests_1 : decode prog_13_method_86_code 1 = .ok (.bipush 11, 2) := by decide +kernel
theorem d_Mo_plainRests_3 : decode prog_13_method_86_code 3 = .ok (.invokevirtual 354, 3) := by decide +kernel
theorem d_Mo_plainRests_6 : decode prog_13_method_86_code 6 = .ok (.iload_n 2, 1) := by decide +kernel
theorem d_Mo_plainRests_7 : decode prog_13_method_86_code 7 = .ok (.iload_n 1, 1) := by decide +kernel
theorem d_Mo_plainRests_8 : decode prog_13_method_86_code 8 = .ok (.ixor, 1) := by decide +kernel
theorem d_Mo_plainRests_9 : decode prog_13_method_86_code 9 = .ok (.ireturn, 1) := by decide +kernel
def f_Mo_plainRests  (p1 : Int32) (p2 : Int32) (x_o_traces : Int32) (x_o_traced : Nat → Int32) : Option (Int32 × Int32 × (Nat → Int32)) :=
  (f_Mo_ran  (11 : Int32) x_o_traces x_o_traced).bind fun (u1, u2) =>
  some ((p2 ^^^ p1), u1, u2)
set_option maxRecDepth 20000 in
theorem c_Mo_plainRests {l : Launch} {D : va_G} {dA : Nat → ClassId} {a_o a_o_had a_o_told a_o_barred a_o_cost a_o_last a_o_often a_o_changeOf a_o_changeAt a_o_before a_o_behind a_o_tape a_o_act a_o_with a_o_lineMany a_o_testEnd a_o_lineEnd a_o_facts a_o_pile a_o_way a_o_bestWay a_o_wasHad a_o_wasLast a_o_keptHad a_o_keptTold a_o_keptLast a_o_keptOften a_o_kind a_o_traced a_o_holds a_o_size a_o_elements a_o_shifted : Nat} {x_o_code : Int32} {x_o_lamps : Int32} {x_o_at : Int32} {x_o_night : Int32} {x_o_spent : Int32} {x_o_rest : Int32} {x_o_shy : Int32} {x_o_hasBegun : Bool} {x_o_doneMany : Int32} {x_o_undoneMany : Int32} {x_o_taped : Int32} {x_o_here : Int32} {x_o_fault : Int32} {x_o_open : Int32} {x_o_laid : Int32} {x_o_hasLaw : Bool} {x_o_bestMany : Int32} {x_o_wasAt : Int32} {x_o_wasNight : Int32} {x_o_hasImage : Bool} {x_o_keptLamps : Int32} {x_o_keptAt : Int32} {x_o_keptNight : Int32} {x_o_keptSpent : Int32} {x_o_bodies : Int32} {p1 : Int32} {p2 : Int32} {x_o_traces : Int32} {x_o_traced : Nat → Int32} {r0 : Int32} {o_x_o_traces : Int32} {o_x_o_traced : Nat → Int32}   (hf : f_Mo_plainRests  p1 p2 x_o_traces x_o_traced = some (r0, o_x_o_traces, o_x_o_traced)) : CT l y_Mo_plainRests prog_13_method_86_code 3 (some .int) { frames := 1, cells := 0, slots := 0, locals := 21 } D dA [.ref a_o, .int p1, .int p2] [O_Mo a_o x_o_code x_o_lamps x_o_at x_o_night x_o_spent x_o_rest x_o_shy a_o_had a_o_told a_o_barred a_o_cost a_o_last a_o_often x_o_hasBegun x_o_doneMany x_o_undoneMany a_o_changeOf a_o_changeAt a_o_before a_o_behind a_o_tape x_o_taped x_o_here x_o_fault x_o_open x_o_laid a_o_act a_o_with a_o_lineMany a_o_testEnd a_o_lineEnd a_o_facts a_o_pile x_o_hasLaw a_o_way a_o_bestWay x_o_bestMany a_o_wasHad a_o_wasLast x_o_wasAt x_o_wasNight x_o_hasImage x_o_keptLamps x_o_keptAt x_o_keptNight x_o_keptSpent a_o_keptHad a_o_keptTold a_o_keptLast a_o_keptOften x_o_bodies a_o_kind x_o_traces a_o_traced a_o_holds a_o_size a_o_elements a_o_shifted, A_I dA a_o_traced 24 x_o_traced] (some (.int r0)) (fun _ : Unit => [O_Mo a_o x_o_code x_o_lamps x_o_at x_o_night x_o_spent x_o_rest x_o_shy a_o_had a_o_told a_o_barred a_o_cost a_o_last a_o_often x_o_hasBegun x_o_doneMany x_o_undoneMany a_o_changeOf a_o_changeAt a_o_before a_o_behind a_o_tape x_o_taped x_o_here x_o_fault x_o_open x_o_laid a_o_act a_o_with a_o_lineMany a_o_testEnd a_o_lineEnd a_o_facts a_o_pile x_o_hasLaw a_o_way a_o_bestWay x_o_bestMany a_o_wasHad a_o_wasLast x_o_wasAt x_o_wasNight x_o_hasImage x_o_keptLamps x_o_keptAt x_o_keptNight x_o_keptSpent a_o_keptHad a_o_keptTold a_o_keptLast a_o_keptOften x_o_bodies a_o_kind o_x_o_traces a_o_traced a_o_holds a_o_size a_o_elements a_o_shifted, A_I dA a_o_traced 24 o_x_o_traced]) := by
  refine ct_intro "OneLampModel" rfl (by decide +kernel) (Nat.le_of_ble_eq_true rfl) [(0, .ref a_o), (1, .int p1), (2, .int p2)] rfl (fun _ C => ?_)
  unfold f_Mo_plainRests at hf
  refine g_aload_n (pc' := 1) C 0 d_Mo_plainRests_0 rfl rfl ?_
  refine g_bipush (pc' := 3) (v := 11) C d_Mo_plainRests_1 rfl rfl ?_
  replace hf := g_bi hf; obtain ⟨⟨u1, u2⟩, hc3, hf⟩ := hf
  dsimp only at hf
  refine g_callV (pc' := 6) (st1 := []) (ws1 := [O_Mo a_o x_o_code x_o_lamps x_o_at x_o_night x_o_spent x_o_rest x_o_shy a_o_had a_o_told a_o_barred a_o_cost a_o_last a_o_often x_o_hasBegun x_o_doneMany x_o_undoneMany a_o_changeOf a_o_changeAt a_o_before a_o_behind a_o_tape x_o_taped x_o_here x_o_fault x_o_open x_o_laid a_o_act a_o_with a_o_lineMany a_o_testEnd a_o_lineEnd a_o_facts a_o_pile x_o_hasLaw a_o_way a_o_bestWay x_o_bestMany a_o_wasHad a_o_wasLast x_o_wasAt x_o_wasNight x_o_hasImage x_o_keptLamps x_o_keptAt x_o_keptNight x_o_keptSpent a_o_keptHad a_o_keptTold a_o_keptLast a_o_keptOften x_o_bodies a_o_kind u1 a_o_traced a_o_holds a_o_size a_o_elements a_o_shifted, A_I dA a_o_traced 24 u2]) C (c_Mo_ran (l := l) (D := D) (dA := dA) (a_o := a_o) (a_o_had := a_o_had) (a_o_told := a_o_told) (a_o_barred := a_o_barred) (a_o_cost := a_o_cost) (a_o_last := a_o_last) (a_o_often := a_o_often) (a_o_changeOf := a_o_changeOf) (a_o_changeAt := a_o_changeAt) (a_o_before := a_o_before) (a_o_behind := a_o_behind) (a_o_tape := a_o_tape) (a_o_act := a_o_act) (a_o_with := a_o_with) (a_o_lineMany := a_o_lineMany) (a_o_testEnd := a_o_testEnd) (a_o_lineEnd := a_o_lineEnd) (a_o_facts := a_o_facts) (a_o_pile := a_o_pile) (a_o_way := a_o_way) (a_o_bestWay := a_o_bestWay) (a_o_wasHad := a_o_wasHad) (a_o_wasLast := a_o_wasLast) (a_o_keptHad := a_o_keptHad) (a_o_keptTold := a_o_keptTold) (a_o_keptLast := a_o_keptLast) (a_o_keptOften := a_o_keptOften) (a_o_kind := a_o_kind) (a_o_traced := a_o_traced) (a_o_holds := a_o_holds) (a_o_size := a_o_size) (a_o_elements := a_o_elements) (a_o_shifted := a_o_shifted) (x_o_code := x_o_code) (x_o_lamps := x_o_lamps) (x_o_at := x_o_at) (x_o_night := x_o_night) (x_o_spent := x_o_spent) (x_o_rest := x_o_rest) (x_o_shy := x_o_shy) (x_o_hasBegun := x_o_hasBegun) (x_o_doneMany := x_o_doneMany) (x_o_undoneMany := x_o_undoneMany) (x_o_taped := x_o_taped) (x_o_here := x_o_here) (x_o_fault := x_o_fault) (x_o_open := x_o_open) (x_o_laid := x_o_laid) (x_o_hasLaw := x_o_hasLaw) (x_o_bestMany := x_o_bestMany) (x_o_wasAt := x_o_wasAt) (x_o_wasNight := x_o_wasNight) (x_o_hasImage := x_o_hasImage) (x_o_keptLamps := x_o_keptLamps) (x_o_keptAt := x_o_keptAt) (x_o_keptNight := x_o_keptNight) (x_o_keptSpent := x_o_keptSpent) (x_o_bodies := x_o_bodies)   hc3) yy_Mo_ran kf_Mo rfl mw_6_146 d_Mo_plainRests_3 rfl [] rfl rfl (Nat.le_of_ble_eq_true rfl) ⟨Nat.le_of_ble_eq_true rfl, Nat.le_of_ble_eq_true rfl⟩ rfl rfl (Nat.zero_le _) (Nat.zero_le _) 0 rfl [0, 1] rfl (by decide +kernel) rfl (g_lay_sel _ _ _ _ [(0, true), (1, true)] (by decide +kernel) rfl (by decide +kernel) rfl rfl) rfl ?_
  refine g_iload_n (pc' := 7) C 2 d_Mo_plainRests_6 rfl rfl ?_
  refine g_iload_n (pc' := 8) C 1 d_Mo_plainRests_7 rfl rfl ?_
  refine g_ixor (pc' := 9) C d_Mo_plainRests_8 rfl ?_
  replace hf := g_o2 hf; obtain ⟨h1, hf⟩ := hf; subst h1
  replace hf := g_o2 hf; obtain ⟨h1, hf⟩ := hf; subst h1
  replace hf := Option.some.inj hf; subst hf
  exact g_iret C d_Mo_plainRests_9 () rfl
def y_Mo_resting : MethodName := ⟨"OneLampModel", "resting", "(II)I"⟩
theorem yy_Mo_resting : YV y_Mo_resting prog_13_method_87_code 4 (some .int) 2 := ⟨mw_6_173, mw_1_12, mw_6_172, tm_s (y := y_Mo_resting) (n := 58) (by decide +kernel), by decide +kernel, by decide +kernel, by decide +kernel⟩
theorem d_Mo_resting_0 : decode prog_13_method_87_code 0 = .ok (.aload_n 0, 1) := by decide +kernel
theorem d_Mo_resting_1 : decode prog_13_method_87_code 1 = .ok (.getfield 95, 3) := by decide +kernel
theorem d_Mo_resting_4 : decode prog_13_method_87_code 4 = .ok (.iload_n 1, 1) := by decide +kernel
theorem d_Mo_resting_5 : decode prog_13_method_87_code 5 = .ok (.iaload, 1) := by decide +kernel
theorem d_Mo_resting_6 : decode prog_13_method_87_code 6 = .ok (.iconst 3, 1) := by decide +kernel
theorem d_Mo_resting_7 : decode prog_13_method_87_code 7 = .ok (.if_icmp .ne 18, 3) := by decide +kernel
theorem d_Mo_resting_10 : decode prog_13_method_87_code 10 = .ok (.aload_n 0, 1) := by decide +kernel
theorem d_Mo_resting_11 : decode prog_13_method_87_code 11 = .ok (.bipush 40, 2) := by decide +kernel
theorem d_Mo_resting_13 : decode prog_13_method_87_code 13 = .ok (.invokevirtual 354, 3) := by decide +kernel
theorem d_Mo_resting_16 : decode prog_13_method_87_code 16 = .ok (.aload_n 0, 1) := by decide +kernel
theorem d_Mo_resting_17 : decode prog_13_method_87_code 17 = .ok (.iload_n 1, 1) := by decide +kernel
theorem d_Mo_resting_18 : decode prog_13_method_87_code 18 = .ok (.iload_n 2, 1) := by decide +kernel
theorem d_Mo_resting_19 : decode prog_13_method_87_code 19 = .ok (.invokevirtual 379, 3) := by decide +kernel
theorem d_Mo_resting_22 : decode prog_13_method_87_code 22 = .ok (.iconst 3, 1) := by decide +kernel
theorem d_Mo_resting_23 : decode prog_13_method_87_code 23 = .ok (.imul, 1) := by decide +kernel
theorem d_Mo_resting_24 : decode prog_13_method_87_code 24 = .ok (.ireturn, 1) := by decide +kernel
theorem d_Mo_resting_25 : decode prog_13_method_87_code 25 = .ok (.aload_n 0, 1) := by decide +kernel
theorem d_Mo_resting_26 : decode prog_13_method_87_code 26 = .ok (.getfield 95, 3) := by decide +kernel
theorem d_Mo_resting_29 : decode prog_13_method_87_code 29 = .ok (.iload_n 1, 1) := by decide +kernel
theorem d_Mo_resting_30 : decode prog_13_method_87_code 30 = .ok (.iaload, 1) := by decide +kernel
theorem d_Mo_resting_31 : decode prog_13_method_87_code 31 = .ok (.iconst 5, 1) := by decide +kernel
theorem d_Mo_resting_32 : decode prog_13_method_87_code 32 = .ok (.if_icmp .ne 25, 3) := by decide +kernel
theorem d_Mo_resting_35 : decode prog_13_method_87_code 35 = .ok (.aload_n 0, 1) := by decide +kernel
theorem d_Mo_resting_36 : decode prog_13_method_87_code 36 = .ok (.bipush 60, 2) := by decide +kernel
theorem d_Mo_resting_38 : decode prog_13_method_87_code 38 = .ok (.invokevirtual 354, 3) := by decide +kernel
theorem d_Mo_resting_41 : decode prog_13_method_87_code 41 = .ok (.aload_n 0, 1) := by decide +kernel
theorem d_Mo_resting_42 : decode prog_13_method_87_code 42 = .ok (.iload_n 1, 1) := by decide +kernel
theorem d_Mo_resting_43 : decode prog_13_method_87_code 43 = .ok (.iload_n 2, 1) := by decide +kernel
theorem d_Mo_resting_44 : decode prog_13_method_87_code 44 = .ok (.invokevirtual 379, 3) := by decide +kernel
theorem d_Mo_resting_47 : decode prog_13_method_87_code 47 = .ok (.istore_n 3, 1) := by decide +kernel
theorem d_Mo_resting_48 : decode prog_13_method_87_code 48 = .ok (.iload_n 3, 1) := by decide +kernel
theorem d_Mo_resting_49 : decode prog_13_method_87_code 49 = .ok (.aload_n 0, 1) := by decide +kernel
theorem d_Mo_resting_50 : decode prog_13_method_87_code 50 = .ok (.iload_n 1, 1) := by decide +kernel
theorem d_Mo_resting_51 : decode prog_13_method_87_code 51 = .ok (.iconst 2, 1) := by decide +kernel
theorem d_Mo_resting_52 : decode prog_13_method_87_code 52 = .ok (.invokevirtual 367, 3) := by decide +kernel
theorem d_Mo_resting_55 : decode prog_13_method_87_code 55 = .ok (.isub, 1) := by decide +kernel
theorem d_Mo_resting_56 : decode prog_13_method_87_code 56 = .ok (.ireturn, 1) := by decide +kernel
theorem d_Mo_resting_57 : decode prog_13_method_87_code 57 = .ok (.aload_n 0, 1) := by decide +kernel
theorem d_Mo_resting_58 : decode prog_13_method_87_code 58 = .ok (.iload_n 1, 1) := by decide +kernel
theorem d_Mo_resting_59 : decode prog_13_method_87_code 59 = .ok (.iload_n 2, 1) := by decide +kernel
theorem d_Mo_resting_60 : decode prog_13_method_87_code 60 = .ok (.invokevirtual 379, 3) := by decide +kernel
theorem d_Mo_resting_63 : decode prog_13_method_87_code 63 = .ok (.ireturn, 1) := by decide +kernel
def f_Mo_resting  (p1 : Int32) (p2 : Int32) (x_o_traces : Int32) (x_o_kind : Nat → Int32) (x_o_traced : Nat → Int32) : Option (Int32 × Int32 × (Nat → Int32)) :=
  if p1 < 0 ∨ 50 ≤ Int32.toNatClampNeg p1 then none else
  if (x_o_kind (Int32.toNatClampNeg p1)) = (3 : Int32) then
    ((f_Mo_ran  (40 : Int32) x_o_traces x_o_traced).bind fun (u16, u17) =>
    (f_Mo_plainRests  p1 p2 u16 u17).bind fun (r19, u20, u21) =>
    some ((r19 * (3 : Int32)), u20, u21))
  else
    (if p1 < 0 ∨ 50 ≤ Int32.toNatClampNeg p1 then none else
    if (x_o_kind (Int32.toNatClampNeg p1)) = (5 : Int32) then
      ((f_Mo_ran  (60 : Int32) x_o_traces x_o_traced).bind fun (u5, u6) =>
      (f_Mo_plainRests  p1 p2 u5 u6).bind fun (r8, u9, u10) =>
      (f_Mo_lighting  p1 (2 : Int32) u9 x_o_kind u10).bind fun (r12, u13, u14) =>
      some ((r8 - r12), u13, u14))
    else
      ((f_Mo_plainRests  p1 p2 x_o_traces x_o_traced).bind fun (r1, u2, u3) =>
      some (r1, u2, u3)))
set_option maxRecDepth 20000 in
theorem c_Mo_resting {l : Launch} {D : va_G} {dA : Nat → ClassId} {a_o a_o_had a_o_told a_o_barred a_o_cost a_o_last a_o_often a_o_changeOf a_o_changeAt a_o_before a_o_behind a_o_tape a_o_act a_o_with a_o_lineMany a_o_testEnd a_o_lineEnd a_o_facts a_o_pile a_o_way a_o_bestWay a_o_wasHad a_o_wasLast a_o_keptHad a_o_keptTold a_o_keptLast a_o_keptOften a_o_kind a_o_traced a_o_holds a_o_size a_o_elements a_o_shifted : Nat} {x_o_code : Int32} {x_o_lamps : Int32} {x_o_at : Int32} {x_o_night : Int32} {x_o_spent : Int32} {x_o_rest : Int32} {x_o_shy : Int32} {x_o_hasBegun : Bool} {x_o_doneMany : Int32} {x_o_undoneMany : Int32} {x_o_taped : Int32} {x_o_here : Int32} {x_o_fault : Int32} {x_o_open : Int32} {x_o_laid : Int32} {x_o_hasLaw : Bool} {x_o_bestMany : Int32} {x_o_wasAt : Int32} {x_o_wasNight : Int32} {x_o_hasImage : Bool} {x_o_keptLamps : Int32} {x_o_keptAt : Int32} {x_o_keptNight : Int32} {x_o_keptSpent : Int32} {x_o_bodies : Int32} {p1 : Int32} {p2 : Int32} {x_o_traces : Int32} {x_o_kind : Nat → Int32} {x_o_traced : Nat → Int32} {r0 : Int32} {o_x_o_traces : Int32} {o_x_o_traced : Nat → Int32}   (hf : f_Mo_resting  p1 p2 x_o_traces x_o_kind x_o_traced = some (r0, o_x_o_traces, o_x_o_traced)) : CT l y_Mo_resting prog_13_method_87_code 4 (some .int) { frames := 4, cells := 0, slots := 0, locals := 87 } D dA [.ref a_o, .int p1, .int p2] [O_Mo a_o x_o_code x_o_lamps x_o_at x_o_night x_o_spent x_o_rest x_o_shy a_o_had a_o_told a_o_barred a_o_cost a_o_last a_o_often x_o_hasBegun x_o_doneMany x_o_undoneMany a_o_changeOf a_o_changeAt a_o_before a_o_behind a_o_tape x_o_taped x_o_here x_o_fault x_o_open x_o_laid a_o_act a_o_with a_o_lineMany a_o_testEnd a_o_lineEnd a_o_facts a_o_pile x_o_hasLaw a_o_way a_o_bestWay x_o_bestMany a_o_wasHad a_o_wasLast x_o_wasAt x_o_wasNight x_o_hasImage x_o_keptLamps x_o_keptAt x_o_keptNight x_o_keptSpent a_o_keptHad a_o_keptTold a_o_keptLast a_o_keptOften x_o_bodies a_o_kind x_o_traces a_o_traced a_o_holds a_o_size a_o_elements a_o_shifted, A_I dA a_o_kind 50 x_o_kind, A_I dA a_o_traced 24 x_o_traced] (some (.int r0)) (fun _ : Unit => [O_Mo a_o x_o_code x_o_lamps x_o_at x_o_night x_o_spent x_o_rest x_o_shy a_o_had a_o_told a_o_barred a_o_cost a_o_last a_o_often x_o_hasBegun x_o_doneMany x_o_undoneMany a_o_changeOf a_o_changeAt a_o_before a_o_behind a_o_tape x_o_taped x_o_here x_o_fault x_o_open x_o_laid a_o_act a_o_with a_o_lineMany a_o_testEnd a_o_lineEnd a_o_facts a_o_pile x_o_hasLaw a_o_way a_o_bestWay x_o_bestMany a_o_wasHad a_o_wasLast x_o_wasAt x_o_wasNight x_o_hasImage x_o_keptLamps x_o_keptAt x_o_keptNight x_o_keptSpent a_o_keptHad a_o_keptTold a_o_keptLast a_o_keptOften x_o_bodies a_o_kind o_x_o_traces a_o_traced a_o_holds a_o_size a_o_elements a_o_shifted, A_I dA a_o_kind 50 x_o_kind, A_I dA a_o_traced 24 o_x_o_traced]) := by
  refine ct_intro "OneLampModel" rfl (by decide +kernel) (Nat.le_of_ble_eq_true rfl) [(0, .ref a_o), (1, .int p1), (2, .int p2)] rfl (fun _ C => ?_)
  unfold f_Mo_resting at hf
  refine g_aload_n (pc' := 1) C 0 d_Mo_resting_0 rfl rfl ?_
  refine g_get (pc' := 4) C kf_Mo 51 mw_4_189 d_Mo_resting_1 rfl 0 rfl (by decide) rfl ?_
  refine g_iload_n (pc' := 5) C 1 d_Mo_resting_4 rfl rfl ?_
  have hb := g_ck hf
  replace hf := g_in hb hf
  refine g_iald (pc' := 6) C d_Mo_resting_5 rfl 1 rfl hb ?_
  refine g_iconst (pc' := 7) (v := 3) C d_Mo_resting_6 rfl rfl ?_
  refine g_icmp_ne (pc' := 10) (tgt := 25) C d_Mo_resting_7 rfl rfl (fun h => ?_) (fun h => ?_)
  · replace hf := g_in h hf
    refine g_aload_n (pc' := 26) C 0 d_Mo_resting_25 rfl rfl ?_
    refine g_get (pc' := 29) C kf_Mo 51 mw_4_189 d_Mo_resting_26 rfl 0 rfl (by decide) rfl ?_
    refine g_iload_n (pc' := 30) C 1 d_Mo_resting_29 rfl rfl ?_
    have hb := g_ck hf
    replace hf := g_in hb hf
    refine g_iald (pc' := 31) C d_Mo_resting_30 rfl 1 rfl hb ?_
    refine g_iconst (pc' := 32) (v := 5) C d_Mo_resting_31 rfl rfl ?_
    refine g_icmp_ne (pc' := 35) (tgt := 57) C d_Mo_resting_32 rfl rfl (fun h => ?_) (fun h => ?_)
    · replace hf := g_in h hf
      refine g_aload_n (pc' := 58) C 0 d_Mo_resting_57 rfl rfl ?_
      refine g_iload_n (pc' := 59) C 1 d_Mo_resting_58 rfl rfl ?_
      refine g_iload_n (pc' := 60) C 2 d_Mo_resting_59 rfl rfl ?_
      replace hf := g_bi hf; obtain ⟨⟨r1, u2, u3⟩, hc4, hf⟩ := hf
      dsimp only at hf
      refine g_callV (pc' := 63) (st1 := [.int r1]) (ws1 := [O_Mo a_o x_o_code x_o_lamps x_o_at x_o_night x_o_spent x_o_rest x_o_shy a_o_had a_o_told a_o_barred a_o_cost a_o_last a_o_often x_o_hasBegun x_o_doneMany x_o_undoneMany a_o_changeOf a_o_changeAt a_o_before a_o_behind a_o_tape x_o_taped x_o_here x_o_fault x_o_open x_o_laid a_o_act a_o_with a_o_lineMany a_o_testEnd a_o_lineEnd a_o_facts a_o_pile x_o_hasLaw a_o_way a_o_bestWay x_o_bestMany a_o_wasHad a_o_wasLast x_o_wasAt x_o_wasNight x_o_hasImage x_o_keptLamps x_o_keptAt x_o_keptNight x_o_keptSpent a_o_keptHad a_o_keptTold a_o_keptLast a_o_keptOften x_o_bodies a_o_kind u2 a_o_traced a_o_holds a_o_size a_o_elements a_o_shifted, A_I dA a_o_kind 50 x_o_kind, A_I dA a_o_traced 24 u3]) C (c_Mo_plainRests (l := l) (D := D) (dA := dA) (a_o := a_o) (a_o_had := a_o_had) (a_o_told := a_o_told) (a_o_barred := a_o_barred) (a_o_cost := a_o_cost) (a_o_last := a_o_last) (a_o_often := a_o_often) (a_o_changeOf := a_o_changeOf) (a_o_changeAt := a_o_changeAt) (a_o_before := a_o_before) (a_o_behind := a_o_behind) (a_o_tape := a_o_tape) (a_o_act := a_o_act) (a_o_with := a_o_with) (a_o_lineMany := a_o_lineMany) (a_o_testEnd := a_o_testEnd) (a_o_lineEnd := a_o_lineEnd) (a_o_facts := a_o_facts) (a_o_pile := a_o_pile) (a_o_way := a_o_way) (a_o_bestWay := a_o_bestWay) (a_o_wasHad := a_o_wasHad) (a_o_wasLast := a_o_wasLast) (a_o_keptHad := a_o_keptHad) (a_o_keptTold := a_o_keptTold) (a_o_keptLast := a_o_keptLast) (a_o_keptOften := a_o_keptOften) (a_o_kind := a_o_kind) (a_o_traced := a_o_traced) (a_o_holds := a_o_holds) (a_o_size := a_o_size) (a_o_elements := a_o_elements) (a_o_shifted := a_o_shifted) (x_o_code := x_o_code) (x_o_lamps := x_o_lamps) (x_o_at := x_o_at) (x_o_night := x_o_night) (x_o_spent := x_o_spent) (x_o_rest := x_o_rest) (x_o_shy := x_o_shy) (x_o_hasBegun := x_o_hasBegun) (x_o_doneMany := x_o_doneMany) (x_o_undoneMany := x_o_undoneMany) (x_o_taped := x_o_taped) (x_o_here := x_o_here) (x_o_fault := x_o_fault) (x_o_open := x_o_open) (x_o_laid := x_o_laid) (x_o_hasLaw := x_o_hasLaw) (x_o_bestMany := x_o_bestMany) (x_o_wasAt := x_o_wasAt) (x_o_wasNight := x_o_wasNight) (x_o_hasImage := x_o_hasImage) (x_o_keptLamps := x_o_keptLamps) (x_o_keptAt := x_o_keptAt) (x_o_keptNight := x_o_keptNight) (x_o_keptSpent := x_o_keptSpent) (x_o_bodies := x_o_bodies)   hc4) yy_Mo_plainRests kf_Mo rfl mw_6_174 d_Mo_resting_60 rfl [] rfl rfl (Nat.le_of_ble_eq_true rfl) ⟨Nat.le_of_ble_eq_true rfl, Nat.le_of_ble_eq_true rfl⟩ rfl rfl (Nat.zero_le _) (Nat.zero_le _) 0 rfl [0, 2] rfl (by decide +kernel) rfl (g_lay_sel _ _ _ _ [(0, true), (1, false), (1, true)] (by decide +kernel) rfl (by decide +kernel) rfl rfl) rfl ?_
      replace hf := g_o2 hf; obtain ⟨h1, hf⟩ := hf; subst h1
      replace hf := g_o2 hf; obtain ⟨h1, hf⟩ := hf; subst h1
      replace hf := Option.some.inj hf; subst hf
      exact g_iret C d_Mo_resting_63 () rfl
    · replace hf := g_ip h hf
      refine g_aload_n (pc' := 36) C 0 d_Mo_resting_35 rfl rfl ?_
      refine g_bipush (pc' := 38) (v := 60) C d_Mo_resting_36 rfl rfl ?_
      replace hf := g_bi hf; obtain ⟨⟨u5, u6⟩, hc7, hf⟩ := hf
      dsimp only at hf
      refine g_callV (pc' := 41) (st1 := []) (ws1 := [O_Mo a_o x_o_code x_o_lamps x_o_at x_o_night x_o_spent x_o_rest x_o_shy a_o_had a_o_told a_o_barred a_o_cost a_o_last a_o_often x_o_hasBegun x_o_doneMany x_o_undoneMany a_o_changeOf a_o_changeAt a_o_before a_o_behind a_o_tape x_o_taped x_o_here x_o_fault x_o_open x_o_laid a_o_act a_o_with a_o_lineMany a_o_testEnd a_o_lineEnd a_o_facts a_o_pile x_o_hasLaw a_o_way a_o_bestWay x_o_bestMany a_o_wasHad a_o_wasLast x_o_wasAt x_o_wasNight x_o_hasImage x_o_keptLamps x_o_keptAt x_o_keptNight x_o_keptSpent a_o_keptHad a_o_keptTold a_o_keptLast a_o_keptOften x_o_bodies a_o_kind u5 a_o_traced a_o_holds a_o_size a_o_elements a_o_shifted, A_I dA a_o_kind 50 x_o_kind, A_I dA a_o_traced 24 u6]) C (c_Mo_ran (l := l) (D := D) (dA := dA) (a_o := a_o) (a_o_had := a_o_had) (a_o_told := a_o_told) (a_o_barred := a_o_barred) (a_o_cost := a_o_cost) (a_o_last := a_o_last) (a_o_often := a_o_often) (a_o_changeOf := a_o_changeOf) (a_o_changeAt := a_o_changeAt) (a_o_before := a_o_before) (a_o_behind := a_o_behind) (a_o_tape := a_o_tape) (a_o_act := a_o_act) (a_o_with := a_o_with) (a_o_lineMany := a_o_lineMany) (a_o_testEnd := a_o_testEnd) (a_o_lineEnd := a_o_lineEnd) (a_o_facts := a_o_facts) (a_o_pile := a_o_pile) (a_o_way := a_o_way) (a_o_bestWay := a_o_bestWay) (a_o_wasHad := a_o_wasHad) (a_o_wasLast := a_o_wasLast) (a_o_keptHad := a_o_keptHad) (a_o_keptTold := a_o_keptTold) (a_o_keptLast := a_o_keptLast) (a_o_keptOften := a_o_keptOften) (a_o_kind := a_o_kind) (a_o_traced := a_o_traced) (a_o_holds := a_o_holds) (a_o_size := a_o_size) (a_o_elements := a_o_elements) (a_o_shifted := a_o_shifted) (x_o_code := x_o_code) (x_o_lamps := x_o_lamps) (x_o_at := x_o_at) (x_o_night := x_o_night) (x_o_spent := x_o_spent) (x_o_rest := x_o_rest) (x_o_shy := x_o_shy) (x_o_hasBegun := x_o_hasBegun) (x_o_doneMany := x_o_doneMany) (x_o_undoneMany := x_o_undoneMany) (x_o_taped := x_o_taped) (x_o_here := x_o_here) (x_o_fault := x_o_fault) (x_o_open := x_o_open) (x_o_laid := x_o_laid) (x_o_hasLaw := x_o_hasLaw) (x_o_bestMany := x_o_bestMany) (x_o_wasAt := x_o_wasAt) (x_o_wasNight := x_o_wasNight) (x_o_hasImage := x_o_hasImage) (x_o_keptLamps := x_o_keptLamps) (x_o_keptAt := x_o_keptAt) (x_o_keptNight := x_o_keptNight) (x_o_keptSpent := x_o_keptSpent) (x_o_bodies := x_o_bodies)   hc7) yy_Mo_ran kf_Mo rfl mw_6_146 d_Mo_resting_38 rfl [] rfl rfl (Nat.le_of_ble_eq_true rfl) ⟨Nat.le_of_ble_eq_true rfl, Nat.le_of_ble_eq_true rfl⟩ rfl rfl (Nat.zero_le _) (Nat.zero_le _) 0 rfl [0, 2] rfl (by decide +kernel) rfl (g_lay_sel _ _ _ _ [(0, true), (1, false), (1, true)] (by decide +kernel) rfl (by decide +kernel) rfl rfl) rfl ?_
      refine g_aload_n (pc' := 42) C 0 d_Mo_resting_41 rfl rfl ?_
      refine g_iload_n (pc' := 43) C 1 d_Mo_resting_42 rfl rfl ?_
      refine g_iload_n (pc' := 44) C 2 d_Mo_resting_43 rfl rfl ?_
      replace hf := g_bi hf; obtain ⟨⟨r8, u9, u10⟩, hc11, hf⟩ := hf
      dsimp only at hf
      refine g_callV (pc' := 47) (st1 := [.int r8]) (ws1 := [O_Mo a_o x_o_code x_o_lamps x_o_at x_o_night x_o_spent x_o_rest x_o_shy a_o_had a_o_told a_o_barred a_o_cost a_o_last a_o_often x_o_hasBegun x_o_doneMany x_o_undoneMany a_o_changeOf a_o_changeAt a_o_before a_o_behind a_o_tape x_o_taped x_o_here x_o_fault x_o_open x_o_laid a_o_act a_o_with a_o_lineMany a_o_testEnd a_o_lineEnd a_o_facts a_o_pile x_o_hasLaw a_o_way a_o_bestWay x_o_bestMany a_o_wasHad a_o_wasLast x_o_wasAt x_o_wasNight x_o_hasImage x_o_keptLamps x_o_keptAt x_o_keptNight x_o_keptSpent a_o_keptHad a_o_keptTold a_o_keptLast a_o_keptOften x_o_bodies a_o_kind u9 a_o_traced a_o_holds a_o_size a_o_elements a_o_shifted, A_I dA a_o_kind 50 x_o_kind, A_I dA a_o_traced 24 u10]) C (c_Mo_plainRests (l := l) (D := D) (dA := dA) (a_o := a_o) (a_o_had := a_o_had) (a_o_told := a_o_told) (a_o_barred := a_o_barred) (a_o_cost := a_o_cost) (a_o_last := a_o_last) (a_o_often := a_o_often) (a_o_changeOf := a_o_changeOf) (a_o_changeAt := a_o_changeAt) (a_o_before := a_o_before) (a_o_behind := a_o_behind) (a_o_tape := a_o_tape) (a_o_act := a_o_act) (a_o_with := a_o_with) (a_o_lineMany := a_o_lineMany) (a_o_testEnd := a_o_testEnd) (a_o_lineEnd := a_o_lineEnd) (a_o_facts := a_o_facts) (a_o_pile := a_o_pile) (a_o_way := a_o_way) (a_o_bestWay := a_o_bestWay) (a_o_wasHad := a_o_wasHad) (a_o_wasLast := a_o_wasLast) (a_o_keptHad := a_o_keptHad) (a_o_keptTold := a_o_keptTold) (a_o_keptLast := a_o_keptLast) (a_o_keptOften := a_o_keptOften) (a_o_kind := a_o_kind) (a_o_traced := a_o_traced) (a_o_holds := a_o_holds) (a_o_size := a_o_size) (a_o_elements := a_o_elements) (a_o_shifted := a_o_shifted) (x_o_code := x_o_code) (x_o_lamps := x_o_lamps) (x_o_at := x_o_at) (x_o_night := x_o_night) (x_o_spent := x_o_spent) (x_o_rest := x_o_rest) (x_o_shy := x_o_shy) (x_o_hasBegun := x_o_hasBegun) (x_o_doneMany := x_o_doneMany) (x_o_undoneMany := x_o_undoneMany) (x_o_taped := x_o_taped) (x_o_here := x_o_here) (x_o_fault := x_o_fault) (x_o_open := x_o_open) (x_o_laid := x_o_laid) (x_o_hasLaw := x_o_hasLaw) (x_o_bestMany := x_o_bestMany) (x_o_wasAt := x_o_wasAt) (x_o_wasNight := x_o_wasNight) (x_o_hasImage := x_o_hasImage) (x_o_keptLamps := x_o_keptLamps) (x_o_keptAt := x_o_keptAt) (x_o_keptNight := x_o_keptNight) (x_o_keptSpent := x_o_keptSpent) (x_o_bodies := x_o_bodies)   hc11) yy_Mo_plainRests kf_Mo rfl mw_6_174 d_Mo_resting_44 rfl [] rfl rfl (Nat.le_of_ble_eq_true rfl) ⟨Nat.le_of_ble_eq_true rfl, Nat.le_of_ble_eq_true rfl⟩ rfl rfl (Nat.zero_le _) (Nat.zero_le _) 0 rfl [0, 2] rfl (by decide +kernel) rfl (g_lay_sel _ _ _ _ [(0, true), (1, false), (1, true)] (by decide +kernel) rfl (by decide +kernel) rfl rfl) rfl ?_
      refine g_istore_n (pc' := 48) (lv' := [(3, .int r8), (0, .ref a_o), (1, .int p1), (2, .int p2)]) C d_Mo_resting_47 rfl (by decide) rfl ?_
      refine g_iload_n (pc' := 49) C 0 d_Mo_resting_48 rfl rfl ?_
      refine g_aload_n (pc' := 50) C 1 d_Mo_resting_49 rfl rfl ?_
      refine g_iload_n (pc' := 51) C 2 d_Mo_resting_50 rfl rfl ?_
      refine g_iconst (pc' := 52) (v := 2) C d_Mo_resting_51 rfl rfl ?_
      replace hf := g_bi hf; obtain ⟨⟨r12, u13, u14⟩, hc15, hf⟩ := hf
      dsimp only at hf
      refine g_callV (pc' := 55) (st1 := [.int r12, .int r8]) (ws1 := [O_Mo a_o x_o_code x_o_lamps x_o_at x_o_night x_o_spent x_o_rest x_o_shy a_o_had a_o_told a_o_barred a_o_cost a_o_last a_o_often x_o_hasBegun x_o_doneMany x_o_undoneMany a_o_changeOf a_o_changeAt a_o_before a_o_behind a_o_tape x_o_taped x_o_here x_o_fault x_o_open x_o_laid a_o_act a_o_with a_o_lineMany a_o_testEnd a_o_lineEnd a_o_facts a_o_pile x_o_hasLaw a_o_way a_o_bestWay x_o_bestMany a_o_wasHad a_o_wasLast x_o_wasAt x_o_wasNight x_o_hasImage x_o_keptLamps x_o_keptAt x_o_keptNight x_o_keptSpent a_o_keptHad a_o_keptTold a_o_keptLast a_o_keptOften x_o_bodies a_o_kind u13 a_o_traced a_o_holds a_o_size a_o_elements a_o_shifted, A_I dA a_o_kind 50 x_o_kind, A_I dA a_o_traced 24 u14]) C (c_Mo_lighting (l := l) (D := D) (dA := dA) (a_o := a_o) (a_o_had := a_o_had) (a_o_told := a_o_told) (a_o_barred := a_o_barred) (a_o_cost := a_o_cost) (a_o_last := a_o_last) (a_o_often := a_o_often) (a_o_changeOf := a_o_changeOf) (a_o_changeAt := a_o_changeAt) (a_o_before := a_o_before) (a_o_behind := a_o_behind) (a_o_tape := a_o_tape) (a_o_act := a_o_act) (a_o_with := a_o_with) (a_o_lineMany := a_o_lineMany) (a_o_testEnd := a_o_testEnd) (a_o_lineEnd := a_o_lineEnd) (a_o_facts := a_o_facts) (a_o_pile := a_o_pile) (a_o_way := a_o_way) (a_o_bestWay := a_o_bestWay) (a_o_wasHad := a_o_wasHad) (a_o_wasLast := a_o_wasLast) (a_o_keptHad := a_o_keptHad) (a_o_keptTold := a_o_keptTold) (a_o_keptLast := a_o_keptLast) (a_o_keptOften := a_o_keptOften) (a_o_kind := a_o_kind) (a_o_traced := a_o_traced) (a_o_holds := a_o_holds) (a_o_size := a_o_size) (a_o_elements := a_o_elements) (a_o_shifted := a_o_shifted) (x_o_code := x_o_code) (x_o_lamps := x_o_lamps) (x_o_at := x_o_at) (x_o_night := x_o_night) (x_o_spent := x_o_spent) (x_o_rest := x_o_rest) (x_o_shy := x_o_shy) (x_o_hasBegun := x_o_hasBegun) (x_o_doneMany := x_o_doneMany) (x_o_undoneMany := x_o_undoneMany) (x_o_taped := x_o_taped) (x_o_here := x_o_here) (x_o_fault := x_o_fault) (x_o_open := x_o_open) (x_o_laid := x_o_laid) (x_o_hasLaw := x_o_hasLaw) (x_o_bestMany := x_o_bestMany) (x_o_wasAt := x_o_wasAt) (x_o_wasNight := x_o_wasNight) (x_o_hasImage := x_o_hasImage) (x_o_keptLamps := x_o_keptLamps) (x_o_keptAt := x_o_keptAt) (x_o_keptNight := x_o_keptNight) (x_o_keptSpent := x_o_keptSpent) (x_o_bodies := x_o_bodies)   hc15) yy_Mo_lighting kf_Mo rfl mw_6_139 d_Mo_resting_52 rfl [.int r8] rfl rfl (Nat.le_of_ble_eq_true rfl) ⟨Nat.le_of_ble_eq_true rfl, Nat.le_of_ble_eq_true rfl⟩ rfl rfl (Nat.zero_le _) (Nat.zero_le _) 0 rfl [0, 1, 2] rfl (by decide +kernel) rfl (g_lay_sel _ _ _ _ [(0, true), (1, true), (2, true)] (by decide +kernel) rfl (by decide +kernel) rfl rfl) rfl ?_
      refine g_isub (pc' := 56) C d_Mo_resting_55 rfl ?_
      replace hf := g_o2 hf; obtain ⟨h1, hf⟩ := hf; subst h1
      replace hf := g_o2 hf; obtain ⟨h1, hf⟩ := hf; subst h1
      replace hf := Option.some.inj hf; subst hf
      exact g_iret C d_Mo_resting_56 () rfl
  · replace hf := g_ip h hf
    refine g_aload_n (pc' := 11) C 0 d_Mo_resting_10 rfl rfl ?_
    refine g_bipush (pc' := 13) (v := 40) C d_Mo_resting_11 rfl rfl ?_
    replace hf := g_bi hf; obtain ⟨⟨u16, u17⟩, hc18, hf⟩ := hf
    dsimp only at hf
    refine g_callV (pc' := 16) (st1 := []) (ws1 := [O_Mo a_o x_o_code x_o_lamps x_o_at x_o_night x_o_spent x_o_rest x_o_shy a_o_had a_o_told a_o_barred a_o_cost a_o_last a_o_often x_o_hasBegun x_o_doneMany x_o_undoneMany a_o_changeOf a_o_changeAt a_o_before a_o_behind a_o_tape x_o_taped x_o_here x_o_fault x_o_open x_o_laid a_o_act a_o_with a_o_lineMany a_o_testEnd a_o_lineEnd a_o_facts a_o_pile x_o_hasLaw a_o_way a_o_bestWay x_o_bestMany a_o_wasHad a_o_wasLast x_o_wasAt x_o_wasNight x_o_hasImage x_o_keptLamps x_o_keptAt x_o_keptNight x_o_keptSpent a_o_keptHad a_o_keptTold a_o_keptLast a_o_keptOften x_o_bodies a_o_kind u16 a_o_traced a_o_holds a_o_size a_o_elements a_o_shifted, A_I dA a_o_kind 50 x_o_kind, A_I dA a_o_traced 24 u17]) C (c_Mo_ran (l := l) (D := D) (dA := dA) (a_o := a_o) (a_o_had := a_o_had) (a_o_told := a_o_told) (a_o_barred := a_o_barred) (a_o_cost := a_o_cost) (a_o_last := a_o_last) (a_o_often := a_o_often) (a_o_changeOf := a_o_changeOf) (a_o_changeAt := a_o_changeAt) (a_o_before := a_o_before) (a_o_behind := a_o_behind) (a_o_tape := a_o_tape) (a_o_act := a_o_act) (a_o_with := a_o_with) (a_o_lineMany := a_o_lineMany) (a_o_testEnd := a_o_testEnd) (a_o_lineEnd := a_o_lineEnd) (a_o_facts := a_o_facts) (a_o_pile := a_o_pile) (a_o_way := a_o_way) (a_o_bestWay := a_o_bestWay) (a_o_wasHad := a_o_wasHad) (a_o_wasLast := a_o_wasLast) (a_o_keptHad := a_o_keptHad) (a_o_keptTold := a_o_keptTold) (a_o_keptLast := a_o_keptLast) (a_o_keptOften := a_o_keptOften) (a_o_kind := a_o_kind) (a_o_traced := a_o_traced) (a_o_holds := a_o_holds) (a_o_size := a_o_size) (a_o_elements := a_o_elements) (a_o_shifted := a_o_shifted) (x_o_code := x_o_code) (x_o_lamps := x_o_lamps) (x_o_at := x_o_at) (x_o_night := x_o_night) (x_o_spent := x_o_spent) (x_o_rest := x_o_rest) (x_o_shy := x_o_shy) (x_o_hasBegun := x_o_hasBegun) (x_o_doneMany := x_o_doneMany) (x_o_undoneMany := x_o_undoneMany) (x_o_taped := x_o_taped) (x_o_here := x_o_here) (x_o_fault := x_o_fault) (x_o_open := x_o_open) (x_o_laid := x_o_laid) (x_o_hasLaw := x_o_hasLaw) (x_o_bestMany := x_o_bestMany) (x_o_wasAt := x_o_wasAt) (x_o_wasNight := x_o_wasNight) (x_o_hasImage := x_o_hasImage) (x_o_keptLamps := x_o_keptLamps) (x_o_keptAt := x_o_keptAt) (x_o_keptNight := x_o_keptNight) (x_o_keptSpent := x_o_keptSpent) (x_o_bodies := x_o_bodies)   hc18) yy_Mo_ran kf_Mo rfl mw_6_146 d_Mo_resting_13 rfl [] rfl rfl (Nat.le_of_ble_eq_true rfl) ⟨Nat.le_of_ble_eq_true rfl, Nat.le_of_ble_eq_true rfl⟩ rfl rfl (Nat.zero_le _) (Nat.zero_le _) 0 rfl [0, 2] rfl (by decide +kernel) rfl (g_lay_sel _ _ _ _ [(0, true), (1, false), (1, true)] (by decide +kernel) rfl (by decide +kernel) rfl rfl) rfl ?_
    refine g_aload_n (pc' := 17) C 0 d_Mo_resting_16 rfl rfl ?_
    refine g_iload_n (pc' := 18) C 1 d_Mo_resting_17 rfl rfl ?_
    refine g_iload_n (pc' := 19) C 2 d_Mo_resting_18 rfl rfl ?_
    replace hf := g_bi hf; obtain ⟨⟨r19, u20, u21⟩, hc22, hf⟩ := hf
    dsimp only at hf
    refine g_callV (pc' := 22) (st1 := [.int r19]) (ws1 := [O_Mo a_o x_o_code x_o_lamps x_o_at x_o_night x_o_spent x_o_rest x_o_shy a_o_had a_o_told a_o_barred a_o_cost a_o_last a_o_often x_o_hasBegun x_o_doneMany x_o_undoneMany a_o_changeOf a_o_changeAt a_o_before a_o_behind a_o_tape x_o_taped x_o_here x_o_fault x_o_open x_o_laid a_o_act a_o_with a_o_lineMany a_o_testEnd a_o_lineEnd a_o_facts a_o_pile x_o_hasLaw a_o_way a_o_bestWay x_o_bestMany a_o_wasHad a_o_wasLast x_o_wasAt x_o_wasNight x_o_hasImage x_o_keptLamps x_o_keptAt x_o_keptNight x_o_keptSpent a_o_keptHad a_o_keptTold a_o_keptLast a_o_keptOften x_o_bodies a_o_kind u20 a_o_traced a_o_holds a_o_size a_o_elements a_o_shifted, A_I dA a_o_kind 50 x_o_kind, A_I dA a_o_traced 24 u21]) C (c_Mo_plainRests (l := l) (D := D) (dA := dA) (a_o := a_o) (a_o_had := a_o_had) (a_o_told := a_o_told) (a_o_barred := a_o_barred) (a_o_cost := a_o_cost) (a_o_last := a_o_last) (a_o_often := a_o_often) (a_o_changeOf := a_o_changeOf) (a_o_changeAt := a_o_changeAt) (a_o_before := a_o_before) (a_o_behind := a_o_behind) (a_o_tape := a_o_tape) (a_o_act := a_o_act) (a_o_with := a_o_with) (a_o_lineMany := a_o_lineMany) (a_o_testEnd := a_o_testEnd) (a_o_lineEnd := a_o_lineEnd) (a_o_facts := a_o_facts) (a_o_pile := a_o_pile) (a_o_way := a_o_way) (a_o_bestWay := a_o_bestWay) (a_o_wasHad := a_o_wasHad) (a_o_wasLast := a_o_wasLast) (a_o_keptHad := a_o_keptHad) (a_o_keptTold := a_o_keptTold) (a_o_keptLast := a_o_keptLast) (a_o_keptOften := a_o_keptOften) (a_o_kind := a_o_kind) (a_o_traced := a_o_traced) (a_o_holds := a_o_holds) (a_o_size := a_o_size) (a_o_elements := a_o_elements) (a_o_shifted := a_o_shifted) (x_o_code := x_o_code) (x_o_lamps := x_o_lamps) (x_o_at := x_o_at) (x_o_night := x_o_night) (x_o_spent := x_o_spent) (x_o_rest := x_o_rest) (x_o_shy := x_o_shy) (x_o_hasBegun := x_o_hasBegun) (x_o_doneMany := x_o_doneMany) (x_o_undoneMany := x_o_undoneMany) (x_o_taped := x_o_taped) (x_o_here := x_o_here) (x_o_fault := x_o_fault) (x_o_open := x_o_open) (x_o_laid := x_o_laid) (x_o_hasLaw := x_o_hasLaw) (x_o_bestMany := x_o_bestMany) (x_o_wasAt := x_o_wasAt) (x_o_wasNight := x_o_wasNight) (x_o_hasImage := x_o_hasImage) (x_o_keptLamps := x_o_keptLamps) (x_o_keptAt := x_o_keptAt) (x_o_keptNight := x_o_keptNight) (x_o_keptSpent := x_o_keptSpent) (x_o_bodies := x_o_bodies)   hc22) yy_Mo_plainRests kf_Mo rfl mw_6_174 d_Mo_resting_19 rfl [] rfl rfl (Nat.le_of_ble_eq_true rfl) ⟨Nat.le_of_ble_eq_true rfl, Nat.le_of_ble_eq_true rfl⟩ rfl rfl (Nat.zero_le _) (Nat.zero_le _) 0 rfl [0, 2] rfl (by decide +kernel) rfl (g_lay_sel _ _ _ _ [(0, true), (1, false), (1, true)] (by decide +kernel) rfl (by decide +kernel) rfl rfl) rfl ?_
    refine g_iconst (pc' := 23) (v := 3) C d_Mo_resting_22 rfl rfl ?_
    refine g_imul (pc' := 24) C d_Mo_resting_23 rfl ?_
    replace hf := g_o2 hf; obtain ⟨h1, hf⟩ := hf; subst h1
    replace hf := g_o2 hf; obtain ⟨h1, hf⟩ := hf; subst h1
    replace hf := Option.some.inj hf; subst hf
    exact g_iret C d_Mo_resting_24 () rfl
def y_Mo_showing : MethodName := ⟨"OneLampModel", "showing", "(II)I"⟩
theorem yy_Mo_showing : YV y_Mo_showing prog_13_method_85_code 4 (some .int) 2 := ⟨mw_6_161, mw_1_12, mw_6_160, tm_s (y := y_Mo_showing) (n := 58) (by decide +kernel), by decide +kernel, by decide +kernel, by decide +kernel⟩
theorem d_Mo_showing_0 : decode prog_13_method_85_code 0 = .ok (.aload_n 0, 1) := by decide +kernel
theorem d_Mo_showing_1 : decode prog_13_method_85_code 1 = .ok (.getfield 95, 3) := by decide +kernel
theorem d_Mo_showing_4 : decode prog_13_method_85_code 4 = .ok (.iload_n 1, 1) := by decide +kernel
theorem d_Mo_showing_5 : decode prog_13_method_85_code 5 = .ok (.iaload, 1) := by decide +kernel
theorem d_Mo_showing_6 : decode prog_13_method_85_code 6 = .ok (.iconst 3, 1) := by decide +kernel
theorem d_Mo_showing_7 : decode prog_13_method_85_code 7 = .ok (.if_icmp .ne 18, 3) := by decide +kernel
theorem d_Mo_showing_10 : decode prog_13_method_85_code 10 = .ok (.aload_n 0, 1) := by decide +kernel
theorem d_Mo_showing_11 : decode prog_13_method_85_code 11 = .ok (.bipush 41, 2) := by decide +kernel
theorem d_Mo_showing_13 : decode prog_13_method_85_code 13 = .ok (.invokevirtual 354, 3) := by decide +kernel
theorem d_Mo_showing_16 : decode prog_13_method_85_code 16 = .ok (.aload_n 0, 1) := by decide +kernel
theorem d_Mo_showing_17 : decode prog_13_method_85_code 17 = .ok (.iload_n 1, 1) := by decide +kernel
theorem d_Mo_showing_18 : decode prog_13_method_85_code 18 = .ok (.iload_n 2, 1) := by decide +kernel
theorem d_Mo_showing_19 : decode prog_13_method_85_code 19 = .ok (.iconst 1, 1) := by decide +kernel
theorem d_Mo_showing_20 : decode prog_13_method_85_code 20 = .ok (.iadd, 1) := by decide +kernel
theorem d_Mo_showing_21 : decode prog_13_method_85_code 21 = .ok (.invokevirtual 373, 3) := by decide +kernel
theorem d_Mo_showing_24 : decode prog_13_method_85_code 24 = .ok (.ireturn, 1) := by decide +kernel
theorem d_Mo_showing_25 : decode prog_13_method_85_code 25 = .ok (.aload_n 0, 1) := by decide +kernel
theorem d_Mo_showing_26 : decode prog_13_method_85_code 26 = .ok (.getfield 95, 3) := by decide +kernel
theorem d_Mo_showing_29 : decode prog_13_method_85_code 29 = .ok (.iload_n 1, 1) := by decide +kernel
theorem d_Mo_showing_30 : decode prog_13_method_85_code 30 = .ok (.iaload, 1) := by decide +kernel
theorem d_Mo_showing_31 : decode prog_13_method_85_code 31 = .ok (.bipush 7, 2) := by decide +kernel
theorem d_Mo_showing_33 : decode prog_13_method_85_code 33 = .ok (.if_icmp .ne 25, 3) := by decide +kernel
theorem d_Mo_showing_36 : decode prog_13_method_85_code 36 = .ok (.aload_n 0, 1) := by decide +kernel
theorem d_Mo_showing_37 : decode prog_13_method_85_code 37 = .ok (.bipush 80, 2) := by decide +kernel
theorem d_Mo_showing_39 : decode prog_13_method_85_code 39 = .ok (.invokevirtual 354, 3) := by decide +kernel
theorem d_Mo_showing_42 : decode prog_13_method_85_code 42 = .ok (.aload_n 0, 1) := by decide +kernel
theorem d_Mo_showing_43 : decode prog_13_method_85_code 43 = .ok (.iload_n 1, 1) := by decide +kernel
theorem d_Mo_showing_44 : decode prog_13_method_85_code 44 = .ok (.iload_n 2, 1) := by decide +kernel
theorem d_Mo_showing_45 : decode prog_13_method_85_code 45 = .ok (.invokevirtual 370, 3) := by decide +kernel
theorem d_Mo_showing_48 : decode prog_13_method_85_code 48 = .ok (.istore_n 3, 1) := by decide +kernel
theorem d_Mo_showing_49 : decode prog_13_method_85_code 49 = .ok (.iload_n 3, 1) := by decide +kernel
theorem d_Mo_showing_50 : decode prog_13_method_85_code 50 = .ok (.aload_n 0, 1) := by decide +kernel
theorem d_Mo_showing_51 : decode prog_13_method_85_code 51 = .ok (.iload_n 1, 1) := by decide +kernel
theorem d_Mo_showing_52 : decode prog_13_method_85_code 52 = .ok (.iconst 2, 1) := by decide +kernel
theorem d_Mo_showing_53 : decode prog_13_method_85_code 53 = .ok (.invokevirtual 376, 3) := by decide +kernel
theorem d_Mo_showing_56 : decode prog_13_method_85_code 56 = .ok (.iadd, 1) := by decide +kernel
theorem d_Mo_showing_57 : decode prog_13_method_85_code 57 = .ok (.ireturn, 1) := by decide +kernel
theorem d_Mo_showing_58 : decode prog_13_method_85_code 58 = .ok (.aload_n 0, 1) := by decide +kernel
theorem d_Mo_showing_59 : decode prog_13_method_85_code 59 = .ok (.getfield 95, 3) := by decide +kernel
theorem d_Mo_showing_62 : decode prog_13_method_85_code 62 = .ok (.iload_n 1, 1) := by decide +kernel
theorem d_Mo_showing_63 : decode prog_13_method_85_code 63 = .ok (.iaload, 1) := by decide +kernel
theorem d_Mo_showing_64 : decode prog_13_method_85_code 64 = .ok (.iconst 2, 1) := by decide +kernel
theorem d_Mo_showing_65 : decode prog_13_method_85_code 65 = .ok (.if_icmp .ne 12, 3) := by decide +kernel
theorem d_Mo_showing_68 : decode prog_13_method_85_code 68 = .ok (.aload_n 0, 1) := by decide +kernel
theorem d_Mo_showing_69 : decode prog_13_method_85_code 69 = .ok (.iload_n 1, 1) := by decide +kernel
theorem d_Mo_showing_70 : decode prog_13_method_85_code 70 = .ok (.iload_n 2, 1) := by decide +kernel
theorem d_Mo_showing_71 : decode prog_13_method_85_code 71 = .ok (.invokevirtual 373, 3) := by decide +kernel
theorem d_Mo_showing_74 : decode prog_13_method_85_code 74 = .ok (.goto 9, 3) := by decide +kernel
theorem d_Mo_showing_77 : decode prog_13_method_85_code 77 = .ok (.aload_n 0, 1) := by decide +kernel
theorem d_Mo_showing_78 : decode prog_13_method_85_code 78 = .ok (.iload_n 1, 1) := by decide +kernel
theorem d_Mo_showing_79 : decode prog_13_method_85_code 79 = .ok (.iload_n 2, 1) := by decide +kernel
theorem d_Mo_showing_80 : decode prog_13_method_85_code 80 = .ok (.invokevirtual 370, 3) := by decide +kernel
theorem d_Mo_showing_83 : decode prog_13_method_85_code 83 = .ok (.ireturn, 1) := by decide +kernel
def f_Mo_showing  (p1 : Int32) (p2 : Int32) (x_o_traces : Int32) (x_o_kind : Nat → Int32) (x_o_traced : Nat → Int32) : Option (Int32 × Int32 × (Nat → Int32)) :=
  if p1 < 0 ∨ 50 ≤ Int32.toNatClampNeg p1 then none else
  if (x_o_kind (Int32.toNatClampNeg p1)) = (3 : Int32) then
    ((f_Mo_ran  (41 : Int32) x_o_traces x_o_traced).bind fun (u20, u21) =>
    (f_Mo_evenShows  p1 (p2 + (1 : Int32)) u20 u21 x_o_kind).bind fun (r23, u24, u25) =>
    some (r23, u24, u25))
  else
    (if p1 < 0 ∨ 50 ≤ Int32.toNatClampNeg p1 then none else
    if (x_o_kind (Int32.toNatClampNeg p1)) = (7 : Int32) then
      ((f_Mo_ran  (80 : Int32) x_o_traces x_o_traced).bind fun (u9, u10) =>
      (f_Mo_plainShows  p1 p2 u9 u10 x_o_kind).bind fun (r12, u13, u14) =>
      (f_Mo_resting  p1 (2 : Int32) u13 x_o_kind u14).bind fun (r16, u17, u18) =>
      some ((r12 + r16), u17, u18))
    else
      (if p1 < 0 ∨ 50 ≤ Int32.toNatClampNeg p1 then none else
      if (x_o_kind (Int32.toNatClampNeg p1)) = (2 : Int32) then
        ((f_Mo_evenShows  p1 p2 x_o_traces x_o_traced x_o_kind).bind fun (r5, u6, u7) =>
        some (r5, u6, u7))
      else
        ((f_Mo_plainShows  p1 p2 x_o_traces x_o_traced x_o_kind).bind fun (r1, u2, u3) =>
        some (r1, u2, u3))))
set_option maxRecDepth 20000 in
theorem c_Mo_showing {l : Launch} {D : va_G} {dA : Nat → ClassId} {a_o a_o_had a_o_told a_o_barred a_o_cost a_o_last a_o_often a_o_changeOf a_o_changeAt a_o_before a_o_behind a_o_tape a_o_act a_o_with a_o_lineMany a_o_testEnd a_o_lineEnd a_o_facts a_o_pile a_o_way a_o_bestWay a_o_wasHad a_o_wasLast a_o_keptHad a_o_keptTold a_o_keptLast a_o_keptOften a_o_kind a_o_traced a_o_holds a_o_size a_o_elements a_o_shifted : Nat} {x_o_code : Int32} {x_o_lamps : Int32} {x_o_at : Int32} {x_o_night : Int32} {x_o_spent : Int32} {x_o_rest : Int32} {x_o_shy : Int32} {x_o_hasBegun : Bool} {x_o_doneMany : Int32} {x_o_undoneMany : Int32} {x_o_taped : Int32} {x_o_here : Int32} {x_o_fault : Int32} {x_o_open : Int32} {x_o_laid : Int32} {x_o_hasLaw : Bool} {x_o_bestMany : Int32} {x_o_wasAt : Int32} {x_o_wasNight : Int32} {x_o_hasImage : Bool} {x_o_keptLamps : Int32} {x_o_keptAt : Int32} {x_o_keptNight : Int32} {x_o_keptSpent : Int32} {x_o_bodies : Int32} {p1 : Int32} {p2 : Int32} {x_o_traces : Int32} {x_o_kind : Nat → Int32} {x_o_traced : Nat → Int32} {r0 : Int32} {o_x_o_traces : Int32} {o_x_o_traced : Nat → Int32}   (hf : f_Mo_showing  p1 p2 x_o_traces x_o_kind x_o_traced = some (r0, o_x_o_traces, o_x_o_traced)) : CT l y_Mo_showing prog_13_method_85_code 4 (some .int) { frames := 6, cells := 0, slots := 0, locals := 131 } D dA [.ref a_o, .int p1, .int p2] [O_Mo a_o x_o_code x_o_lamps x_o_at x_o_night x_o_spent x_o_rest x_o_shy a_o_had a_o_told a_o_barred a_o_cost a_o_last a_o_often x_o_hasBegun x_o_doneMany x_o_undoneMany a_o_changeOf a_o_changeAt a_o_before a_o_behind a_o_tape x_o_taped x_o_here x_o_fault x_o_open x_o_laid a_o_act a_o_with a_o_lineMany a_o_testEnd a_o_lineEnd a_o_facts a_o_pile x_o_hasLaw a_o_way a_o_bestWay x_o_bestMany a_o_wasHad a_o_wasLast x_o_wasAt x_o_wasNight x_o_hasImage x_o_keptLamps x_o_keptAt x_o_keptNight x_o_keptSpent a_o_keptHad a_o_keptTold a_o_keptLast a_o_keptOften x_o_bodies a_o_kind x_o_traces a_o_traced a_o_holds a_o_size a_o_elements a_o_shifted, A_I dA a_o_kind 50 x_o_kind, A_I dA a_o_traced 24 x_o_traced] (some (.int r0)) (fun _ : Unit => [O_Mo a_o x_o_code x_o_lamps x_o_at x_o_night x_o_spent x_o_rest x_o_shy a_o_had a_o_told a_o_barred a_o_cost a_o_last a_o_often x_o_hasBegun x_o_doneMany x_o_undoneMany a_o_changeOf a_o_changeAt a_o_before a_o_behind a_o_tape x_o_taped x_o_here x_o_fault x_o_open x_o_laid a_o_act a_o_with a_o_lineMany a_o_testEnd a_o_lineEnd a_o_facts a_o_pile x_o_hasLaw a_o_way a_o_bestWay x_o_bestMany a_o_wasHad a_o_wasLast x_o_wasAt x_o_wasNight x_o_hasImage x_o_keptLamps x_o_keptAt x_o_keptNight x_o_keptSpent a_o_keptHad a_o_keptTold a_o_keptLast a_o_keptOften x_o_bodies a_o_kind o_x_o_traces a_o_traced a_o_holds a_o_size a_o_elements a_o_shifted, A_I dA a_o_kind 50 x_o_kind, A_I dA a_o_traced 24 o_x_o_traced]) := by
  refine ct_intro "OneLampModel" rfl (by decide +kernel) (Nat.le_of_ble_eq_true rfl) [(0, .ref a_o), (1, .int p1), (2, .int p2)] rfl (fun _ C => ?_)
  unfold f_Mo_showing at hf
  refine g_aload_n (pc' := 1) C 0 d_Mo_showing_0 rfl rfl ?_
  refine g_get (pc' := 4) C kf_Mo 51 mw_4_189 d_Mo_showing_1 rfl 0 rfl (by decide) rfl ?_
  refine g_iload_n (pc' := 5) C 1 d_Mo_showing_4 rfl rfl ?_
  have hb := g_ck hf
  replace hf := g_in hb hf
  refine g_iald (pc' := 6) C d_Mo_showing_5 rfl 1 rfl hb ?_
  refine g_iconst (pc' := 7) (v := 3) C d_Mo_showing_6 rfl rfl ?_
  refine g_icmp_ne (pc' := 10) (tgt := 25) C d_Mo_showing_7 rfl rfl (fun h => ?_) (fun h => ?_)
  · replace hf := g_in h hf
    refine g_aload_n (pc' := 26) C 0 d_Mo_showing_25 rfl rfl ?_
    refine g_get (pc' := 29) C kf_Mo 51 mw_4_189 d_Mo_showing_26 rfl 0 rfl (by decide) rfl ?_
    refine g_iload_n (pc' := 30) C 1 d_Mo_showing_29 rfl rfl ?_
    have hb := g_ck hf
    replace hf := g_in hb hf
    refine g_iald (pc' := 31) C d_Mo_showing_30 rfl 1 rfl hb ?_
    refine g_bipush (pc' := 33) (v := 7) C d_Mo_showing_31 rfl rfl ?_
    refine g_icmp_ne (pc' := 36) (tgt := 58) C d_Mo_showing_33 rfl rfl (fun h => ?_) (fun h => ?_)
    · replace hf := g_in h hf
      refine g_aload_n (pc' := 59) C 0 d_Mo_showing_58 rfl rfl ?_
      refine g_get (pc' := 62) C kf_Mo 51 mw_4_189 d_Mo_showing_59 rfl 0 rfl (by decide) rfl ?_
      refine g_iload_n (pc' := 63) C 1 d_Mo_showing_62 rfl rfl ?_
      have hb := g_ck hf
      replace hf := g_in hb hf
      refine g_iald (pc' := 64) C d_Mo_showing_63 rfl 1 rfl hb ?_
      refine g_iconst (pc' := 65) (v := 2) C d_Mo_showing_64 rfl rfl ?_
      refine g_icmp_ne (pc' := 68) (tgt := 77) C d_Mo_showing_65 rfl rfl (fun h => ?_) (fun h => ?_)
      · replace hf := g_in h hf
        refine g_aload_n (pc' := 78) C 0 d_Mo_showing_77 rfl rfl ?_
        refine g_iload_n (pc' := 79) C 1 d_Mo_showing_78 rfl rfl ?_
        refine g_iload_n (pc' := 80) C 2 d_Mo_showing_79 rfl rfl ?_
        replace hf := g_bi hf; obtain ⟨⟨r1, u2, u3⟩, hc4, hf⟩ := hf
        dsimp only at hf
        refine g_callV (pc' := 83) (st1 := [.int r1]) (ws1 := [O_Mo a_o x_o_code x_o_lamps x_o_at x_o_night x_o_spent x_o_rest x_o_shy a_o_had a_o_told a_o_barred a_o_cost a_o_last a_o_often x_o_hasBegun x_o_doneMany x_o_undoneMany a_o_changeOf a_o_changeAt a_o_before a_o_behind a_o_tape x_o_taped x_o_here x_o_fault x_o_open x_o_laid a_o_act a_o_with a_o_lineMany a_o_testEnd a_o_lineEnd a_o_facts a_o_pile x_o_hasLaw a_o_way a_o_bestWay x_o_bestMany a_o_wasHad a_o_wasLast x_o_wasAt x_o_wasNight x_o_hasImage x_o_keptLamps x_o_keptAt x_o_keptNight x_o_keptSpent a_o_keptHad a_o_keptTold a_o_keptLast a_o_keptOften x_o_bodies a_o_kind u2 a_o_traced a_o_holds a_o_size a_o_elements a_o_shifted, A_I dA a_o_kind 50 x_o_kind, A_I dA a_o_traced 24 u3]) C (c_Mo_plainShows (l := l) (D := D) (dA := dA) (a_o := a_o) (a_o_had := a_o_had) (a_o_told := a_o_told) (a_o_barred := a_o_barred) (a_o_cost := a_o_cost) (a_o_last := a_o_last) (a_o_often := a_o_often) (a_o_changeOf := a_o_changeOf) (a_o_changeAt := a_o_changeAt) (a_o_before := a_o_before) (a_o_behind := a_o_behind) (a_o_tape := a_o_tape) (a_o_act := a_o_act) (a_o_with := a_o_with) (a_o_lineMany := a_o_lineMany) (a_o_testEnd := a_o_testEnd) (a_o_lineEnd := a_o_lineEnd) (a_o_facts := a_o_facts) (a_o_pile := a_o_pile) (a_o_way := a_o_way) (a_o_bestWay := a_o_bestWay) (a_o_wasHad := a_o_wasHad) (a_o_wasLast := a_o_wasLast) (a_o_keptHad := a_o_keptHad) (a_o_keptTold := a_o_keptTold) (a_o_keptLast := a_o_keptLast) (a_o_keptOften := a_o_keptOften) (a_o_kind := a_o_kind) (a_o_traced := a_o_traced) (a_o_holds := a_o_holds) (a_o_size := a_o_size) (a_o_elements := a_o_elements) (a_o_shifted := a_o_shifted) (x_o_code := x_o_code) (x_o_lamps := x_o_lamps) (x_o_at := x_o_at) (x_o_night := x_o_night) (x_o_spent := x_o_spent) (x_o_rest := x_o_rest) (x_o_shy := x_o_shy) (x_o_hasBegun := x_o_hasBegun) (x_o_doneMany := x_o_doneMany) (x_o_undoneMany := x_o_undoneMany) (x_o_taped := x_o_taped) (x_o_here := x_o_here) (x_o_fault := x_o_fault) (x_o_open := x_o_open) (x_o_laid := x_o_laid) (x_o_hasLaw := x_o_hasLaw) (x_o_bestMany := x_o_bestMany) (x_o_wasAt := x_o_wasAt) (x_o_wasNight := x_o_wasNight) (x_o_hasImage := x_o_hasImage) (x_o_keptLamps := x_o_keptLamps) (x_o_keptAt := x_o_keptAt) (x_o_keptNight := x_o_keptNight) (x_o_keptSpent := x_o_keptSpent) (x_o_bodies := x_o_bodies)   hc4) yy_Mo_plainShows kf_Mo rfl mw_6_166 d_Mo_showing_80 rfl [] rfl rfl (Nat.le_of_ble_eq_true rfl) ⟨Nat.le_of_ble_eq_true rfl, Nat.le_of_ble_eq_true rfl⟩ rfl rfl (Nat.zero_le _) (Nat.zero_le _) 0 rfl [0, 2, 1] rfl (by decide +kernel) rfl (g_lay_sel _ _ _ _ [(0, true), (2, true), (1, true)] (by decide +kernel) rfl (by decide +kernel) rfl rfl) rfl ?_
        replace hf := g_o2 hf; obtain ⟨h1, hf⟩ := hf; subst h1
        replace hf := g_o2 hf; obtain ⟨h1, hf⟩ := hf; subst h1
        replace hf := Option.some.inj hf; subst hf
        exact g_iret C d_Mo_showing_83 () rfl
      · replace hf := g_ip h hf
        refine g_aload_n (pc' := 69) C 0 d_Mo_showing_68 rfl rfl ?_
        refine g_iload_n (pc' := 70) C 1 d_Mo_showing_69 rfl rfl ?_
        refine g_iload_n (pc' := 71) C 2 d_Mo_showing_70 rfl rfl ?_
        replace hf := g_bi hf; obtain ⟨⟨r5, u6, u7⟩, hc8, hf⟩ := hf
        dsimp only at hf
        refine g_callV (pc' := 74) (st1 := [.int r5]) (ws1 := [O_Mo a_o x_o_code x_o_lamps x_o_at x_o_night x_o_spent x_o_rest x_o_shy a_o_had a_o_told a_o_barred a_o_cost a_o_last a_o_often x_o_hasBegun x_o_doneMany x_o_undoneMany a_o_changeOf a_o_changeAt a_o_before a_o_behind a_o_tape x_o_taped x_o_here x_o_fault x_o_open x_o_laid a_o_act a_o_with a_o_lineMany a_o_testEnd a_o_lineEnd a_o_facts a_o_pile x_o_hasLaw a_o_way a_o_bestWay x_o_bestMany a_o_wasHad a_o_wasLast x_o_wasAt x_o_wasNight x_o_hasImage x_o_keptLamps x_o_keptAt x_o_keptNight x_o_keptSpent a_o_keptHad a_o_keptTold a_o_keptLast a_o_keptOften x_o_bodies a_o_kind u6 a_o_traced a_o_holds a_o_size a_o_elements a_o_shifted, A_I dA a_o_kind 50 x_o_kind, A_I dA a_o_traced 24 u7]) C (c_Mo_evenShows (l := l) (D := D) (dA := dA) (a_o := a_o) (a_o_had := a_o_had) (a_o_told := a_o_told) (a_o_barred := a_o_barred) (a_o_cost := a_o_cost) (a_o_last := a_o_last) (a_o_often := a_o_often) (a_o_changeOf := a_o_changeOf) (a_o_changeAt := a_o_changeAt) (a_o_before := a_o_before) (a_o_behind := a_o_behind) (a_o_tape := a_o_tape) (a_o_act := a_o_act) (a_o_with := a_o_with) (a_o_lineMany := a_o_lineMany) (a_o_testEnd := a_o_testEnd) (a_o_lineEnd := a_o_lineEnd) (a_o_facts := a_o_facts) (a_o_pile := a_o_pile) (a_o_way := a_o_way) (a_o_bestWay := a_o_bestWay) (a_o_wasHad := a_o_wasHad) (a_o_wasLast := a_o_wasLast) (a_o_keptHad := a_o_keptHad) (a_o_keptTold := a_o_keptTold) (a_o_keptLast := a_o_keptLast) (a_o_keptOften := a_o_keptOften) (a_o_kind := a_o_kind) (a_o_traced := a_o_traced) (a_o_holds := a_o_holds) (a_o_size := a_o_size) (a_o_elements := a_o_elements) (a_o_shifted := a_o_shifted) (x_o_code := x_o_code) (x_o_lamps := x_o_lamps) (x_o_at := x_o_at) (x_o_night := x_o_night) (x_o_spent := x_o_spent) (x_o_rest := x_o_rest) (x_o_shy := x_o_shy) (x_o_hasBegun := x_o_hasBegun) (x_o_doneMany := x_o_doneMany) (x_o_undoneMany := x_o_undoneMany) (x_o_taped := x_o_taped) (x_o_here := x_o_here) (x_o_fault := x_o_fault) (x_o_open := x_o_open) (x_o_laid := x_o_laid) (x_o_hasLaw := x_o_hasLaw) (x_o_bestMany := x_o_bestMany) (x_o_wasAt := x_o_wasAt) (x_o_wasNight := x_o_wasNight) (x_o_hasImage := x_o_hasImage) (x_o_keptLamps := x_o_keptLamps) (x_o_keptAt := x_o_keptAt) (x_o_keptNight := x_o_keptNight) (x_o_keptSpent := x_o_keptSpent) (x_o_bodies := x_o_bodies)   hc8) yy_Mo_evenShows kf_Mo rfl mw_6_162 d_Mo_showing_71 rfl [] rfl rfl (Nat.le_of_ble_eq_true rfl) ⟨Nat.le_of_ble_eq_true rfl, Nat.le_of_ble_eq_true rfl⟩ rfl rfl (Nat.zero_le _) (Nat.zero_le _) 0 rfl [0, 2, 1] rfl (by decide +kernel) rfl (g_lay_sel _ _ _ _ [(0, true), (2, true), (1, true)] (by decide +kernel) rfl (by decide +kernel) rfl rfl) rfl ?_
        refine g_goto (tgt := 83) C d_Mo_showing_74 rfl ?_
        replace hf := g_o2 hf; obtain ⟨h1, hf⟩ := hf; subst h1
        replace hf := g_o2 hf; obtain ⟨h1, hf⟩ := hf; subst h1
        replace hf := Option.some.inj hf; subst hf
        exact g_iret C d_Mo_showing_83 () rfl
    · replace hf := g_ip h hf
      refine g_aload_n (pc' := 37) C 0 d_Mo_showing_36 rfl rfl ?_
      refine g_bipush (pc' := 39) (v := 80) C d_Mo_showing_37 rfl rfl ?_
      replace hf := g_bi hf; obtain ⟨⟨u9, u10⟩, hc11, hf⟩ := hf
      dsimp only at hf
      refine g_callV (pc' := 42) (st1 := []) (ws1 := [O_Mo a_o x_o_code x_o_lamps x_o_at x_o_night x_o_spent x_o_rest x_o_shy a_o_had a_o_told a_o_barred a_o_cost a_o_last a_o_often x_o_hasBegun x_o_doneMany x_o_undoneMany a_o_changeOf a_o_changeAt a_o_before a_o_behind a_o_tape x_o_taped x_o_here x_o_fault x_o_open x_o_laid a_o_act a_o_with a_o_lineMany a_o_testEnd a_o_lineEnd a_o_facts a_o_pile x_o_hasLaw a_o_way a_o_bestWay x_o_bestMany a_o_wasHad a_o_wasLast x_o_wasAt x_o_wasNight x_o_hasImage x_o_keptLamps x_o_keptAt x_o_keptNight x_o_keptSpent a_o_keptHad a_o_keptTold a_o_keptLast a_o_keptOften x_o_bodies a_o_kind u9 a_o_traced a_o_holds a_o_size a_o_elements a_o_shifted, A_I dA a_o_kind 50 x_o_kind, A_I dA a_o_traced 24 u10]) C (c_Mo_ran (l := l) (D := D) (dA := dA) (a_o := a_o) (a_o_had := a_o_had) (a_o_told := a_o_told) (a_o_barred := a_o_barred) (a_o_cost := a_o_cost) (a_o_last := a_o_last) (a_o_often := a_o_often) (a_o_changeOf := a_o_changeOf) (a_o_changeAt := a_o_changeAt) (a_o_before := a_o_before) (a_o_behind := a_o_behind) (a_o_tape := a_o_tape) (a_o_act := a_o_act) (a_o_with := a_o_with) (a_o_lineMany := a_o_lineMany) (a_o_testEnd := a_o_testEnd) (a_o_lineEnd := a_o_lineEnd) (a_o_facts := a_o_facts) (a_o_pile := a_o_pile) (a_o_way := a_o_way) (a_o_bestWay := a_o_bestWay) (a_o_wasHad := a_o_wasHad) (a_o_wasLast := a_o_wasLast) (a_o_keptHad := a_o_keptHad) (a_o_keptTold := a_o_keptTold) (a_o_keptLast := a_o_keptLast) (a_o_keptOften := a_o_keptOften) (a_o_kind := a_o_kind) (a_o_traced := a_o_traced) (a_o_holds := a_o_holds) (a_o_size := a_o_size) (a_o_elements := a_o_elements) (a_o_shifted := a_o_shifted) (x_o_code := x_o_code) (x_o_lamps := x_o_lamps) (x_o_at := x_o_at) (x_o_night := x_o_night) (x_o_spent := x_o_spent) (x_o_rest := x_o_rest) (x_o_shy := x_o_shy) (x_o_hasBegun := x_o_hasBegun) (x_o_doneMany := x_o_doneMany) (x_o_undoneMany := x_o_undoneMany) (x_o_taped := x_o_taped) (x_o_here := x_o_here) (x_o_fault := x_o_fault) (x_o_open := x_o_open) (x_o_laid := x_o_laid) (x_o_hasLaw := x_o_hasLaw) (x_o_bestMany := x_o_bestMany) (x_o_wasAt := x_o_wasAt) (x_o_wasNight := x_o_wasNight) (x_o_hasImage := x_o_hasImage) (x_o_keptLamps := x_o_keptLamps) (x_o_keptAt := x_o_keptAt) (x_o_keptNight := x_o_keptNight) (x_o_keptSpent := x_o_keptSpent) (x_o_bodies := x_o_bodies)   hc11) yy_Mo_ran kf_Mo rfl mw_6_146 d_Mo_showing_39 rfl [] rfl rfl (Nat.le_of_ble_eq_true rfl) ⟨Nat.le_of_ble_eq_true rfl, Nat.le_of_ble_eq_true rfl⟩ rfl rfl (Nat.zero_le _) (Nat.zero_le _) 0 rfl [0, 2] rfl (by decide +kernel) rfl (g_lay_sel _ _ _ _ [(0, true), (1, false), (1, true)] (by decide +kernel) rfl (by decide +kernel) rfl rfl) rfl ?_
      refine g_aload_n (pc' := 43) C 0 d_Mo_showing_42 rfl rfl ?_
      refine g_iload_n (pc' := 44) C 1 d_Mo_showing_43 rfl rfl ?_
      refine g_iload_n (pc' := 45) C 2 d_Mo_showing_44 rfl rfl ?_
      replace hf := g_bi hf; obtain ⟨⟨r12, u13, u14⟩, hc15, hf⟩ := hf
      dsimp only at hf
      refine g_callV (pc' := 48) (st1 := [.int r12]) (ws1 := [O_Mo a_o x_o_code x_o_lamps x_o_at x_o_night x_o_spent x_o_rest x_o_shy a_o_had a_o_told a_o_barred a_o_cost a_o_last a_o_often x_o_hasBegun x_o_doneMany x_o_undoneMany a_o_changeOf a_o_changeAt a_o_before a_o_behind a_o_tape x_o_taped x_o_here x_o_fault x_o_open x_o_laid a_o_act a_o_with a_o_lineMany a_o_testEnd a_o_lineEnd a_o_facts a_o_pile x_o_hasLaw a_o_way a_o_bestWay x_o_bestMany a_o_wasHad a_o_wasLast x_o_wasAt x_o_wasNight x_o_hasImage x_o_keptLamps x_o_keptAt x_o_keptNight x_o_keptSpent a_o_keptHad a_o_keptTold a_o_keptLast a_o_keptOften x_o_bodies a_o_kind u13 a_o_traced a_o_holds a_o_size a_o_elements a_o_shifted, A_I dA a_o_kind 50 x_o_kind, A_I dA a_o_traced 24 u14]) C (c_Mo_plainShows (l := l) (D := D) (dA := dA) (a_o := a_o) (a_o_had := a_o_had) (a_o_told := a_o_told) (a_o_barred := a_o_barred) (a_o_cost := a_o_cost) (a_o_last := a_o_last) (a_o_often := a_o_often) (a_o_changeOf := a_o_changeOf) (a_o_changeAt := a_o_changeAt) (a_o_before := a_o_before) (a_o_behind := a_o_behind) (a_o_tape := a_o_tape) (a_o_act := a_o_act) (a_o_with := a_o_with) (a_o_lineMany := a_o_lineMany) (a_o_testEnd := a_o_testEnd) (a_o_lineEnd := a_o_lineEnd) (a_o_facts := a_o_facts) (a_o_pile := a_o_pile) (a_o_way := a_o_way) (a_o_bestWay := a_o_bestWay) (a_o_wasHad := a_o_wasHad) (a_o_wasLast := a_o_wasLast) (a_o_keptHad := a_o_keptHad) (a_o_keptTold := a_o_keptTold) (a_o_keptLast := a_o_keptLast) (a_o_keptOften := a_o_keptOften) (a_o_kind := a_o_kind) (a_o_traced := a_o_traced) (a_o_holds := a_o_holds) (a_o_size := a_o_size) (a_o_elements := a_o_elements) (a_o_shifted := a_o_shifted) (x_o_code := x_o_code) (x_o_lamps := x_o_lamps) (x_o_at := x_o_at) (x_o_night := x_o_night) (x_o_spent := x_o_spent) (x_o_rest := x_o_rest) (x_o_shy := x_o_shy) (x_o_hasBegun := x_o_hasBegun) (x_o_doneMany := x_o_doneMany) (x_o_undoneMany := x_o_undoneMany) (x_o_taped := x_o_taped) (x_o_here := x_o_here) (x_o_fault := x_o_fault) (x_o_open := x_o_open) (x_o_laid := x_o_laid) (x_o_hasLaw := x_o_hasLaw) (x_o_bestMany := x_o_bestMany) (x_o_wasAt := x_o_wasAt) (x_o_wasNight := x_o_wasNight) (x_o_hasImage := x_o_hasImage) (x_o_keptLamps := x_o_keptLamps) (x_o_keptAt := x_o_keptAt) (x_o_keptNight := x_o_keptNight) (x_o_keptSpent := x_o_keptSpent) (x_o_bodies := x_o_bodies)   hc15) yy_Mo_plainShows kf_Mo rfl mw_6_166 d_Mo_showing_45 rfl [] rfl rfl (Nat.le_of_ble_eq_true rfl) ⟨Nat.le_of_ble_eq_true rfl, Nat.le_of_ble_eq_true rfl⟩ rfl rfl (Nat.zero_le _) (Nat.zero_le _) 0 rfl [0, 2, 1] rfl (by decide +kernel) rfl (g_lay_sel _ _ _ _ [(0, true), (2, true), (1, true)] (by decide +kernel) rfl (by decide +kernel) rfl rfl) rfl ?_
      refine g_istore_n (pc' := 49) (lv' := [(3, .int r12), (0, .ref a_o), (1, .int p1), (2, .int p2)]) C d_Mo_showing_48 rfl (by decide) rfl ?_
      refine g_iload_n (pc' := 50) C 0 d_Mo_showing_49 rfl rfl ?_
      refine g_aload_n (pc' := 51) C 1 d_Mo_showing_50 rfl rfl ?_
      refine g_iload_n (pc' := 52) C 2 d_Mo_showing_51 rfl rfl ?_
      refine g_iconst (pc' := 53) (v := 2) C d_Mo_showing_52 rfl rfl ?_
      replace hf := g_bi hf; obtain ⟨⟨r16, u17, u18⟩, hc19, hf⟩ := hf
      dsimp only at hf
      refine g_callV (pc' := 56) (st1 := [.int r16, .int r12]) (ws1 := [O_Mo a_o x_o_code x_o_lamps x_o_at x_o_night x_o_spent x_o_rest x_o_shy a_o_had a_o_told a_o_barred a_o_cost a_o_last a_o_often x_o_hasBegun x_o_doneMany x_o_undoneMany a_o_changeOf a_o_changeAt a_o_before a_o_behind a_o_tape x_o_taped x_o_here x_o_fault x_o_open x_o_laid a_o_act a_o_with a_o_lineMany a_o_testEnd a_o_lineEnd a_o_facts a_o_pile x_o_hasLaw a_o_way a_o_bestWay x_o_bestMany a_o_wasHad a_o_wasLast x_o_wasAt x_o_wasNight x_o_hasImage x_o_keptLamps x_o_keptAt x_o_keptNight x_o_keptSpent a_o_keptHad a_o_keptTold a_o_keptLast a_o_keptOften x_o_bodies a_o_kind u17 a_o_traced a_o_holds a_o_size a_o_elements a_o_shifted, A_I dA a_o_kind 50 x_o_kind, A_I dA a_o_traced 24 u18]) C (c_Mo_resting (l := l) (D := D) (dA := dA) (a_o := a_o) (a_o_had := a_o_had) (a_o_told := a_o_told) (a_o_barred := a_o_barred) (a_o_cost := a_o_cost) (a_o_last := a_o_last) (a_o_often := a_o_often) (a_o_changeOf := a_o_changeOf) (a_o_changeAt := a_o_changeAt) (a_o_before := a_o_before) (a_o_behind := a_o_behind) (a_o_tape := a_o_tape) (a_o_act := a_o_act) (a_o_with := a_o_with) (a_o_lineMany := a_o_lineMany) (a_o_testEnd := a_o_testEnd) (a_o_lineEnd := a_o_lineEnd) (a_o_facts := a_o_facts) (a_o_pile := a_o_pile) (a_o_way := a_o_way) (a_o_bestWay := a_o_bestWay) (a_o_wasHad := a_o_wasHad) (a_o_wasLast := a_o_wasLast) (a_o_keptHad := a_o_keptHad) (a_o_keptTold := a_o_keptTold) (a_o_keptLast := a_o_keptLast) (a_o_keptOften := a_o_keptOften) (a_o_kind := a_o_kind) (a_o_traced := a_o_traced) (a_o_holds := a_o_holds) (a_o_size := a_o_size) (a_o_elements := a_o_elements) (a_o_shifted := a_o_shifted) (x_o_code := x_o_code) (x_o_lamps := x_o_lamps) (x_o_at := x_o_at) (x_o_night := x_o_night) (x_o_spent := x_o_spent) (x_o_rest := x_o_rest) (x_o_shy := x_o_shy) (x_o_hasBegun := x_o_hasBegun) (x_o_doneMany := x_o_doneMany) (x_o_undoneMany := x_o_undoneMany) (x_o_taped := x_o_taped) (x_o_here := x_o_here) (x_o_fault := x_o_fault) (x_o_open := x_o_open) (x_o_laid := x_o_laid) (x_o_hasLaw := x_o_hasLaw) (x_o_bestMany := x_o_bestMany) (x_o_wasAt := x_o_wasAt) (x_o_wasNight := x_o_wasNight) (x_o_hasImage := x_o_hasImage) (x_o_keptLamps := x_o_keptLamps) (x_o_keptAt := x_o_keptAt) (x_o_keptNight := x_o_keptNight) (x_o_keptSpent := x_o_keptSpent) (x_o_bodies := x_o_bodies)   hc19) yy_Mo_resting kf_Mo rfl mw_6_170 d_Mo_showing_53 rfl [.int r12] rfl rfl (Nat.le_of_ble_eq_true rfl) ⟨Nat.le_of_ble_eq_true rfl, Nat.le_of_ble_eq_true rfl⟩ rfl rfl (Nat.zero_le _) (Nat.zero_le _) 0 rfl [0, 1, 2] rfl (by decide +kernel) rfl (g_lay_sel _ _ _ _ [(0, true), (1, true), (2, true)] (by decide +kernel) rfl (by decide +kernel) rfl rfl) rfl ?_
      refine g_iadd (pc' := 57) C d_Mo_showing_56 rfl ?_
      replace hf := g_o2 hf; obtain ⟨h1, hf⟩ := hf; subst h1
      replace hf := g_o2 hf; obtain ⟨h1, hf⟩ := hf; subst h1
      replace hf := Option.some.inj hf; subst hf
      exact g_iret C d_Mo_showing_57 () rfl
  · replace hf := g_ip h hf
    refine g_aload_n (pc' := 11) C 0 d_Mo_showing_10 rfl rfl ?_
    refine g_bipush (pc' := 13) (v := 41) C d_Mo_showing_11 rfl rfl ?_
    replace hf := g_bi hf; obtain ⟨⟨u20, u21⟩, hc22, hf⟩ := hf
    dsimp only at hf
    refine g_callV (pc' := 16) (st1 := []) (ws1 := [O_Mo a_o x_o_code x_o_lamps x_o_at x_o_night x_o_spent x_o_rest x_o_shy a_o_had a_o_told a_o_barred a_o_cost a_o_last a_o_often x_o_hasBegun x_o_doneMany x_o_undoneMany a_o_changeOf a_o_changeAt a_o_before a_o_behind a_o_tape x_o_taped x_o_here x_o_fault x_o_open x_o_laid a_o_act a_o_with a_o_lineMany a_o_testEnd a_o_lineEnd a_o_facts a_o_pile x_o_hasLaw a_o_way a_o_bestWay x_o_bestMany a_o_wasHad a_o_wasLast x_o_wasAt x_o_wasNight x_o_hasImage x_o_keptLamps x_o_keptAt x_o_keptNight x_o_keptSpent a_o_keptHad a_o_keptTold a_o_keptLast a_o_keptOften x_o_bodies a_o_kind u20 a_o_traced a_o_holds a_o_size a_o_elements a_o_shifted, A_I dA a_o_kind 50 x_o_kind, A_I dA a_o_traced 24 u21]) C (c_Mo_ran (l := l) (D := D) (dA := dA) (a_o := a_o) (a_o_had := a_o_had) (a_o_told := a_o_told) (a_o_barred := a_o_barred) (a_o_cost := a_o_cost) (a_o_last := a_o_last) (a_o_often := a_o_often) (a_o_changeOf := a_o_changeOf) (a_o_changeAt := a_o_changeAt) (a_o_before := a_o_before) (a_o_behind := a_o_behind) (a_o_tape := a_o_tape) (a_o_act := a_o_act) (a_o_with := a_o_with) (a_o_lineMany := a_o_lineMany) (a_o_testEnd := a_o_testEnd) (a_o_lineEnd := a_o_lineEnd) (a_o_facts := a_o_facts) (a_o_pile := a_o_pile) (a_o_way := a_o_way) (a_o_bestWay := a_o_bestWay) (a_o_wasHad := a_o_wasHad) (a_o_wasLast := a_o_wasLast) (a_o_keptHad := a_o_keptHad) (a_o_keptTold := a_o_keptTold) (a_o_keptLast := a_o_keptLast) (a_o_keptOften := a_o_keptOften) (a_o_kind := a_o_kind) (a_o_traced := a_o_traced) (a_o_holds := a_o_holds) (a_o_size := a_o_size) (a_o_elements := a_o_elements) (a_o_shifted := a_o_shifted) (x_o_code := x_o_code) (x_o_lamps := x_o_lamps) (x_o_at := x_o_at) (x_o_night := x_o_night) (x_o_spent := x_o_spent) (x_o_rest := x_o_rest) (x_o_shy := x_o_shy) (x_o_hasBegun := x_o_hasBegun) (x_o_doneMany := x_o_doneMany) (x_o_undoneMany := x_o_undoneMany) (x_o_taped := x_o_taped) (x_o_here := x_o_here) (x_o_fault := x_o_fault) (x_o_open := x_o_open) (x_o_laid := x_o_laid) (x_o_hasLaw := x_o_hasLaw) (x_o_bestMany := x_o_bestMany) (x_o_wasAt := x_o_wasAt) (x_o_wasNight := x_o_wasNight) (x_o_hasImage := x_o_hasImage) (x_o_keptLamps := x_o_keptLamps) (x_o_keptAt := x_o_keptAt) (x_o_keptNight := x_o_keptNight) (x_o_keptSpent := x_o_keptSpent) (x_o_bodies := x_o_bodies)   hc22) yy_Mo_ran kf_Mo rfl mw_6_146 d_Mo_showing_13 rfl [] rfl rfl (Nat.le_of_ble_eq_true rfl) ⟨Nat.le_of_ble_eq_true rfl, Nat.le_of_ble_eq_true rfl⟩ rfl rfl (Nat.zero_le _) (Nat.zero_le _) 0 rfl [0, 2] rfl (by decide +kernel) rfl (g_lay_sel _ _ _ _ [(0, true), (1, false), (1, true)] (by decide +kernel) rfl (by decide +kernel) rfl rfl) rfl ?_
    refine g_aload_n (pc' := 17) C 0 d_Mo_showing_16 rfl rfl ?_
    refine g_iload_n (pc' := 18) C 1 d_Mo_showing_17 rfl rfl ?_
    refine g_iload_n (pc' := 19) C 2 d_Mo_showing_18 rfl rfl ?_
    refine g_iconst (pc' := 20) (v := 1) C d_Mo_showing_19 rfl rfl ?_
    refine g_iadd (pc' := 21) C d_Mo_showing_20 rfl ?_
    replace hf := g_bi hf; obtain ⟨⟨r23, u24, u25⟩, hc26, hf⟩ := hf
    dsimp only at hf
    refine g_callV (pc' := 24) (st1 := [.int r23]) (ws1 := [O_Mo a_o x_o_code x_o_lamps x_o_at x_o_night x_o_spent x_o_rest x_o_shy a_o_had a_o_told a_o_barred a_o_cost a_o_last a_o_often x_o_hasBegun x_o_doneMany x_o_undoneMany a_o_changeOf a_o_changeAt a_o_before a_o_behind a_o_tape x_o_taped x_o_here x_o_fault x_o_open x_o_laid a_o_act a_o_with a_o_lineMany a_o_testEnd a_o_lineEnd a_o_facts a_o_pile x_o_hasLaw a_o_way a_o_bestWay x_o_bestMany a_o_wasHad a_o_wasLast x_o_wasAt x_o_wasNight x_o_hasImage x_o_keptLamps x_o_keptAt x_o_keptNight x_o_keptSpent a_o_keptHad a_o_keptTold a_o_keptLast a_o_keptOften x_o_bodies a_o_kind u24 a_o_traced a_o_holds a_o_size a_o_elements a_o_shifted, A_I dA a_o_kind 50 x_o_kind, A_I dA a_o_traced 24 u25]) C (c_Mo_evenShows (l := l) (D := D) (dA := dA) (a_o := a_o) (a_o_had := a_o_had) (a_o_told := a_o_told) (a_o_barred := a_o_barred) (a_o_cost := a_o_cost) (a_o_last := a_o_last) (a_o_often := a_o_often) (a_o_changeOf := a_o_changeOf) (a_o_changeAt := a_o_changeAt) (a_o_before := a_o_before) (a_o_behind := a_o_behind) (a_o_tape := a_o_tape) (a_o_act := a_o_act) (a_o_with := a_o_with) (a_o_lineMany := a_o_lineMany) (a_o_testEnd := a_o_testEnd) (a_o_lineEnd := a_o_lineEnd) (a_o_facts := a_o_facts) (a_o_pile := a_o_pile) (a_o_way := a_o_way) (a_o_bestWay := a_o_bestWay) (a_o_wasHad := a_o_wasHad) (a_o_wasLast := a_o_wasLast) (a_o_keptHad := a_o_keptHad) (a_o_keptTold := a_o_keptTold) (a_o_keptLast := a_o_keptLast) (a_o_keptOften := a_o_keptOften) (a_o_kind := a_o_kind) (a_o_traced := a_o_traced) (a_o_holds := a_o_holds) (a_o_size := a_o_size) (a_o_elements := a_o_elements) (a_o_shifted := a_o_shifted) (x_o_code := x_o_code) (x_o_lamps := x_o_lamps) (x_o_at := x_o_at) (x_o_night := x_o_night) (x_o_spent := x_o_spent) (x_o_rest := x_o_rest) (x_o_shy := x_o_shy) (x_o_hasBegun := x_o_hasBegun) (x_o_doneMany := x_o_doneMany) (x_o_undoneMany := x_o_undoneMany) (x_o_taped := x_o_taped) (x_o_here := x_o_here) (x_o_fault := x_o_fault) (x_o_open := x_o_open) (x_o_laid := x_o_laid) (x_o_hasLaw := x_o_hasLaw) (x_o_bestMany := x_o_bestMany) (x_o_wasAt := x_o_wasAt) (x_o_wasNight := x_o_wasNight) (x_o_hasImage := x_o_hasImage) (x_o_keptLamps := x_o_keptLamps) (x_o_keptAt := x_o_keptAt) (x_o_keptNight := x_o_keptNight) (x_o_keptSpent := x_o_keptSpent) (x_o_bodies := x_o_bodies)   hc26) yy_Mo_evenShows kf_Mo rfl mw_6_162 d_Mo_showing_21 rfl [] rfl rfl (Nat.le_of_ble_eq_true rfl) ⟨Nat.le_of_ble_eq_true rfl, Nat.le_of_ble_eq_true rfl⟩ rfl rfl (Nat.zero_le _) (Nat.zero_le _) 0 rfl [0, 2, 1] rfl (by decide +kernel) rfl (g_lay_sel _ _ _ _ [(0, true), (2, true), (1, true)] (by decide +kernel) rfl (by decide +kernel) rfl rfl) rfl ?_
    replace hf := g_o2 hf; obtain ⟨h1, hf⟩ := hf; subst h1
    replace hf := g_o2 hf; obtain ⟨h1, hf⟩ := hf; subst h1
    replace hf := Option.some.inj hf; subst hf
    exact g_iret C d_Mo_showing_24 () rfl
def y_Mo_plainTells : MethodName := ⟨"OneLampModel", "plainTells", "(II)I"⟩
theorem yy_Mo_plainTells : YV y_Mo_plainTells prog_13_method_88_code 4 (some .int) 2 := ⟨mw_6_189, mw_1_12, mw_6_188, tm_s (y := y_Mo_plainTells) (n := 58) (by decide +kernel), by decide +kernel, by decide +kernel, by decide +kernel⟩
theorem d_Mo_plainTells_0 : decode prog_13_method_88_code 0 = .ok (.aload_n 0, 1) := by decide +kernel
theorem d_Mo_plainTells_1 : decode prog_13_method_88_code 1 = .ok (.iconst 2, 1) := by decide +kernel
theorem d_Mo_plainTells_2 : decode prog_13_method_88_code 2 = .ok (.invokevirtual 354, 3) := by decide +kernel
theorem d_Mo_plainTells_5 : decode prog_13_method_88_code 5 = .ok (.aload_n 0, 1) := by decide +kernel
theorem d_Mo_plainTells_6 : decode prog_13_method_88_code 6 = .ok (.iload_n 1, 1) := by decide +kernel
theorem d_Mo_plainTells_7 : decode prog_13_method_88_code 7 = .ok (.iload_n 2, 1) := by decide +kernel
theorem d_Mo_plainTells_8 : decode prog_13_method_88_code 8 = .ok (.invokevirtual 382, 3) := by decide +kernel
theorem d_Mo_plainTells_11 : decode prog_13_method_88_code 11 = .ok (.istore_n 3, 1) := by decide +kernel
theorem d_Mo_plainTells_12 : decode prog_13_method_88_code 12 = .ok (.iload_n 3, 1) := by decide +kernel
theorem d_Mo_plainTells_13 : decode prog_13_method_88_code 13 = .ok (.aload_n 0, 1) := by decide +kernel
theorem d_Mo_plainTells_14 : decode prog_13_method_88_code 14 = .ok (.iload_n 1, 1) := by decide +kernel
theorem d_Mo_plainTells_15 : decode prog_13_method_88_code 15 = .ok (.iconst 1, 1) := by decide +kernel
theorem d_Mo_plainTells_16 : decode prog_13_method_88_code 16 = .ok (.invokevirtual 376, 3) := by decide +kernel
theorem d_Mo_plainTells_19 : decode prog_13_method_88_code 19 = .ok (.isub, 1) := by decide +kernel
theorem d_Mo_plainTells_20 : decode prog_13_method_88_code 20 = .ok (.ireturn, 1) := by decide +kernel
def f_Mo_plainTells  (p1 : Int32) (p2 : Int32) (x_o_traces : Int32) (x_o_traced : Nat → Int32) (x_o_kind : Nat → Int32) : Option (Int32 × Int32 × (Nat → Int32)) :=
  (f_Mo_ran  (2 : Int32) x_o_traces x_o_traced).bind fun (u1, u2) =>
  (f_Mo_showing  p1 p2 u1 x_o_kind u2).bind fun (r4, u5, u6) =>
  (f_Mo_resting  p1 (1 : Int32) u5 x_o_kind u6).bind fun (r8, u9, u10) =>
  some ((r4 - r8), u9, u10)
set_option maxRecDepth 20000 in
theorem c_Mo_plainTells {l : Launch} {D : va_G} {dA : Nat → ClassId} {a_o a_o_had a_o_told a_o_barred a_o_cost a_o_last a_o_often a_o_changeOf a_o_changeAt a_o_before a_o_behind a_o_tape a_o_act a_o_with a_o_lineMany a_o_testEnd a_o_lineEnd a_o_facts a_o_pile a_o_way a_o_bestWay a_o_wasHad a_o_wasLast a_o_keptHad a_o_keptTold a_o_keptLast a_o_keptOften a_o_kind a_o_traced a_o_holds a_o_size a_o_elements a_o_shifted : Nat} {x_o_code : Int32} {x_o_lamps : Int32} {x_o_at : Int32} {x_o_night : Int32} {x_o_spent : Int32} {x_o_rest : Int32} {x_o_shy : Int32} {x_o_hasBegun : Bool} {x_o_doneMany : Int32} {x_o_undoneMany : Int32} {x_o_taped : Int32} {x_o_here : Int32} {x_o_fault : Int32} {x_o_open : Int32} {x_o_laid : Int32} {x_o_hasLaw : Bool} {x_o_bestMany : Int32} {x_o_wasAt : Int32} {x_o_wasNight : Int32} {x_o_hasImage : Bool} {x_o_keptLamps : Int32} {x_o_keptAt : Int32} {x_o_keptNight : Int32} {x_o_keptSpent : Int32} {x_o_bodies : Int32} {p1 : Int32} {p2 : Int32} {x_o_traces : Int32} {x_o_traced : Nat → Int32} {x_o_kind : Nat → Int32} {r0 : Int32} {o_x_o_traces : Int32} {o_x_o_traced : Nat → Int32}   (hf : f_Mo_plainTells  p1 p2 x_o_traces x_o_traced x_o_kind = some (r0, o_x_o_traces, o_x_o_traced)) : CT l y_Mo_plainTells prog_13_method_88_code 4 (some .int) { frames := 7, cells := 0, slots := 0, locals := 154 } D dA [.ref a_o, .int p1, .int p2] [O_Mo a_o x_o_code x_o_lamps x_o_at x_o_night x_o_spent x_o_rest x_o_shy a_o_had a_o_told a_o_barred a_o_cost a_o_last a_o_often x_o_hasBegun x_o_doneMany x_o_undoneMany a_o_changeOf a_o_changeAt a_o_before a_o_behind a_o_tape x_o_taped x_o_here x_o_fault x_o_open x_o_laid a_o_act a_o_with a_o_lineMany a_o_testEnd a_o_lineEnd a_o_facts a_o_pile x_o_hasLaw a_o_way a_o_bestWay x_o_bestMany a_o_wasHad a_o_wasLast x_o_wasAt x_o_wasNight x_o_hasImage x_o_keptLamps x_o_keptAt x_o_keptNight x_o_keptSpent a_o_keptHad a_o_keptTold a_o_keptLast a_o_keptOften x_o_bodies a_o_kind x_o_traces a_o_traced a_o_holds a_o_size a_o_elements a_o_shifted, A_I dA a_o_traced 24 x_o_traced, A_I dA a_o_kind 50 x_o_kind] (some (.int r0)) (fun _ : Unit => [O_Mo a_o x_o_code x_o_lamps x_o_at x_o_night x_o_spent x_o_rest x_o_shy a_o_had a_o_told a_o_barred a_o_cost a_o_last a_o_often x_o_hasBegun x_o_doneMany x_o_undoneMany a_o_changeOf a_o_changeAt a_o_before a_o_behind a_o_tape x_o_taped x_o_here x_o_fault x_o_open x_o_laid a_o_act a_o_with a_o_lineMany a_o_testEnd a_o_lineEnd a_o_facts a_o_pile x_o_hasLaw a_o_way a_o_bestWay x_o_bestMany a_o_wasHad a_o_wasLast x_o_wasAt x_o_wasNight x_o_hasImage x_o_keptLamps x_o_keptAt x_o_keptNight x_o_keptSpent a_o_keptHad a_o_keptTold a_o_keptLast a_o_keptOften x_o_bodies a_o_kind o_x_o_traces a_o_traced a_o_holds a_o_size a_o_elements a_o_shifted, A_I dA a_o_traced 24 o_x_o_traced, A_I dA a_o_kind 50 x_o_kind]) := by
  refine ct_intro "OneLampModel" rfl (by decide +kernel) (Nat.le_of_ble_eq_true rfl) [(0, .ref a_o), (1, .int p1), (2, .int p2)] rfl (fun _ C => ?_)
  unfold f_Mo_plainTells at hf
  refine g_aload_n (pc' := 1) C 0 d_Mo_plainTells_0 rfl rfl ?_
  refine g_iconst (pc' := 2) (v := 2) C d_Mo_plainTells_1 rfl rfl ?_
  replace hf := g_bi hf; obtain ⟨⟨u1, u2⟩, hc3, hf⟩ := hf
  dsimp only at hf
  refine g_callV (pc' := 5) (st1 := []) (ws1 := [O_Mo a_o x_o_code x_o_lamps x_o_at x_o_night x_o_spent x_o_rest x_o_shy a_o_had a_o_told a_o_barred a_o_cost a_o_last a_o_often x_o_hasBegun x_o_doneMany x_o_undoneMany a_o_changeOf a_o_changeAt a_o_before a_o_behind a_o_tape x_o_taped x_o_here x_o_fault x_o_open x_o_laid a_o_act a_o_with a_o_lineMany a_o_testEnd a_o_lineEnd a_o_facts a_o_pile x_o_hasLaw a_o_way a_o_bestWay x_o_bestMany a_o_wasHad a_o_wasLast x_o_wasAt x_o_wasNight x_o_hasImage x_o_keptLamps x_o_keptAt x_o_keptNight x_o_keptSpent a_o_keptHad a_o_keptTold a_o_keptLast a_o_keptOften x_o_bodies a_o_kind u1 a_o_traced a_o_holds a_o_size a_o_elements a_o_shifted, A_I dA a_o_traced 24 u2, A_I dA a_o_kind 50 x_o_kind]) C (c_Mo_ran (l := l) (D := D) (dA := dA) (a_o := a_o) (a_o_had := a_o_had) (a_o_told := a_o_told) (a_o_barred := a_o_barred) (a_o_cost := a_o_cost) (a_o_last := a_o_last) (a_o_often := a_o_often) (a_o_changeOf := a_o_changeOf) (a_o_changeAt := a_o_changeAt) (a_o_before := a_o_before) (a_o_behind := a_o_behind) (a_o_tape := a_o_tape) (a_o_act := a_o_act) (a_o_with := a_o_with) (a_o_lineMany := a_o_lineMany) (a_o_testEnd := a_o_testEnd) (a_o_lineEnd := a_o_lineEnd) (a_o_facts := a_o_facts) (a_o_pile := a_o_pile) (a_o_way := a_o_way) (a_o_bestWay := a_o_bestWay) (a_o_wasHad := a_o_wasHad) (a_o_wasLast := a_o_wasLast) (a_o_keptHad := a_o_keptHad) (a_o_keptTold := a_o_keptTold) (a_o_keptLast := a_o_keptLast) (a_o_keptOften := a_o_keptOften) (a_o_kind := a_o_kind) (a_o_traced := a_o_traced) (a_o_holds := a_o_holds) (a_o_size := a_o_size) (a_o_elements := a_o_elements) (a_o_shifted := a_o_shifted) (x_o_code := x_o_code) (x_o_lamps := x_o_lamps) (x_o_at := x_o_at) (x_o_night := x_o_night) (x_o_spent := x_o_spent) (x_o_rest := x_o_rest) (x_o_shy := x_o_shy) (x_o_hasBegun := x_o_hasBegun) (x_o_doneMany := x_o_doneMany) (x_o_undoneMany := x_o_undoneMany) (x_o_taped := x_o_taped) (x_o_here := x_o_here) (x_o_fault := x_o_fault) (x_o_open := x_o_open) (x_o_laid := x_o_laid) (x_o_hasLaw := x_o_hasLaw) (x_o_bestMany := x_o_bestMany) (x_o_wasAt := x_o_wasAt) (x_o_wasNight := x_o_wasNight) (x_o_hasImage := x_o_hasImage) (x_o_keptLamps := x_o_keptLamps) (x_o_keptAt := x_o_keptAt) (x_o_keptNight := x_o_keptNight) (x_o_keptSpent := x_o_keptSpent) (x_o_bodies := x_o_bodies)   hc3) yy_Mo_ran kf_Mo rfl mw_6_146 d_Mo_plainTells_2 rfl [] rfl rfl (Nat.le_of_ble_eq_true rfl) ⟨Nat.le_of_ble_eq_true rfl, Nat.le_of_ble_eq_true rfl⟩ rfl rfl (Nat.zero_le _) (Nat.zero_le _) 0 rfl [0, 1] rfl (by decide +kernel) rfl (g_lay_sel _ _ _ _ [(0, true), (1, true), (2, false)] (by decide +kernel) rfl (by decide +kernel) rfl rfl) rfl ?_
  refine g_aload_n (pc' := 6) C 0 d_Mo_plainTells_5 rfl rfl ?_
  refine g_iload_n (pc' := 7) C 1 d_Mo_plainTells_6 rfl rfl ?_
  refine g_iload_n (pc' := 8) C 2 d_Mo_plainTells_7 rfl rfl ?_
  replace hf := g_bi hf; obtain ⟨⟨r4, u5, u6⟩, hc7, hf⟩ := hf
  dsimp only at hf
  refine g_callV (pc' := 11) (st1 := [.int r4]) (ws1 := [O_Mo a_o x_o_code x_o_lamps x_o_at x_o_night x_o_spent x_o_rest x_o_shy a_o_had a_o_told a_o_barred a_o_cost a_o_last a_o_often x_o_hasBegun x_o_doneMany x_o_undoneMany a_o_changeOf a_o_changeAt a_o_before a_o_behind a_o_tape x_o_taped x_o_here x_o_fault x_o_open x_o_laid a_o_act a_o_with a_o_lineMany a_o_testEnd a_o_lineEnd a_o_facts a_o_pile x_o_hasLaw a_o_way a_o_bestWay x_o_bestMany a_o_wasHad a_o_wasLast x_o_wasAt x_o_wasNight x_o_hasImage x_o_keptLamps x_o_keptAt x_o_keptNight x_o_keptSpent a_o_keptHad a_o_keptTold a_o_keptLast a_o_keptOften x_o_bodies a_o_kind u5 a_o_traced a_o_holds a_o_size a_o_elements a_o_shifted, A_I dA a_o_traced 24 u6, A_I dA a_o_kind 50 x_o_kind]) C (c_Mo_showing (l := l) (D := D) (dA := dA) (a_o := a_o) (a_o_had := a_o_had) (a_o_told := a_o_told) (a_o_barred := a_o_barred) (a_o_cost := a_o_cost) (a_o_last := a_o_last) (a_o_often := a_o_often) (a_o_changeOf := a_o_changeOf) (a_o_changeAt := a_o_changeAt) (a_o_before := a_o_before) (a_o_behind := a_o_behind) (a_o_tape := a_o_tape) (a_o_act := a_o_act) (a_o_with := a_o_with) (a_o_lineMany := a_o_lineMany) (a_o_testEnd := a_o_testEnd) (a_o_lineEnd := a_o_lineEnd) (a_o_facts := a_o_facts) (a_o_pile := a_o_pile) (a_o_way := a_o_way) (a_o_bestWay := a_o_bestWay) (a_o_wasHad := a_o_wasHad) (a_o_wasLast := a_o_wasLast) (a_o_keptHad := a_o_keptHad) (a_o_keptTold := a_o_keptTold) (a_o_keptLast := a_o_keptLast) (a_o_keptOften := a_o_keptOften) (a_o_kind := a_o_kind) (a_o_traced := a_o_traced) (a_o_holds := a_o_holds) (a_o_size := a_o_size) (a_o_elements := a_o_elements) (a_o_shifted := a_o_shifted) (x_o_code := x_o_code) (x_o_lamps := x_o_lamps) (x_o_at := x_o_at) (x_o_night := x_o_night) (x_o_spent := x_o_spent) (x_o_rest := x_o_rest) (x_o_shy := x_o_shy) (x_o_hasBegun := x_o_hasBegun) (x_o_doneMany := x_o_doneMany) (x_o_undoneMany := x_o_undoneMany) (x_o_taped := x_o_taped) (x_o_here := x_o_here) (x_o_fault := x_o_fault) (x_o_open := x_o_open) (x_o_laid := x_o_laid) (x_o_hasLaw := x_o_hasLaw) (x_o_bestMany := x_o_bestMany) (x_o_wasAt := x_o_wasAt) (x_o_wasNight := x_o_wasNight) (x_o_hasImage := x_o_hasImage) (x_o_keptLamps := x_o_keptLamps) (x_o_keptAt := x_o_keptAt) (x_o_keptNight := x_o_keptNight) (x_o_keptSpent := x_o_keptSpent) (x_o_bodies := x_o_bodies)   hc7) yy_Mo_showing kf_Mo rfl mw_6_158 d_Mo_plainTells_8 rfl [] rfl rfl (Nat.le_of_ble_eq_true rfl) ⟨Nat.le_of_ble_eq_true rfl, Nat.le_of_ble_eq_true rfl⟩ rfl rfl (Nat.zero_le _) (Nat.zero_le _) 0 rfl [0, 2, 1] rfl (by decide +kernel) rfl (g_lay_sel _ _ _ _ [(0, true), (2, true), (1, true)] (by decide +kernel) rfl (by decide +kernel) rfl rfl) rfl ?_
  refine g_istore_n (pc' := 12) (lv' := [(3, .int r4), (0, .ref a_o), (1, .int p1), (2, .int p2)]) C d_Mo_plainTells_11 rfl (by decide) rfl ?_
  refine g_iload_n (pc' := 13) C 0 d_Mo_plainTells_12 rfl rfl ?_
  refine g_aload_n (pc' := 14) C 1 d_Mo_plainTells_13 rfl rfl ?_
  refine g_iload_n (pc' := 15) C 2 d_Mo_plainTells_14 rfl rfl ?_
  refine g_iconst (pc' := 16) (v := 1) C d_Mo_plainTells_15 rfl rfl ?_
  replace hf := g_bi hf; obtain ⟨⟨r8, u9, u10⟩, hc11, hf⟩ := hf
  dsimp only at hf
  refine g_callV (pc' := 19) (st1 := [.int r8, .int r4]) (ws1 := [O_Mo a_o x_o_code x_o_lamps x_o_at x_o_night x_o_spent x_o_rest x_o_shy a_o_had a_o_told a_o_barred a_o_cost a_o_last a_o_often x_o_hasBegun x_o_doneMany x_o_undoneMany a_o_changeOf a_o_changeAt a_o_before a_o_behind a_o_tape x_o_taped x_o_here x_o_fault x_o_open x_o_laid a_o_act a_o_with a_o_lineMany a_o_testEnd a_o_lineEnd a_o_facts a_o_pile x_o_hasLaw a_o_way a_o_bestWay x_o_bestMany a_o_wasHad a_o_wasLast x_o_wasAt x_o_wasNight x_o_hasImage x_o_keptLamps x_o_keptAt x_o_keptNight x_o_keptSpent a_o_keptHad a_o_keptTold a_o_keptLast a_o_keptOften x_o_bodies a_o_kind u9 a_o_traced a_o_holds a_o_size a_o_elements a_o_shifted, A_I dA a_o_traced 24 u10, A_I dA a_o_kind 50 x_o_kind]) C (c_Mo_resting (l := l) (D := D) (dA := dA) (a_o := a_o) (a_o_had := a_o_had) (a_o_told := a_o_told) (a_o_barred := a_o_barred) (a_o_cost := a_o_cost) (a_o_last := a_o_last) (a_o_often := a_o_often) (a_o_changeOf := a_o_changeOf) (a_o_changeAt := a_o_changeAt) (a_o_before := a_o_before) (a_o_behind := a_o_behind) (a_o_tape := a_o_tape) (a_o_act := a_o_act) (a_o_with := a_o_with) (a_o_lineMany := a_o_lineMany) (a_o_testEnd := a_o_testEnd) (a_o_lineEnd := a_o_lineEnd) (a_o_facts := a_o_facts) (a_o_pile := a_o_pile) (a_o_way := a_o_way) (a_o_bestWay := a_o_bestWay) (a_o_wasHad := a_o_wasHad) (a_o_wasLast := a_o_wasLast) (a_o_keptHad := a_o_keptHad) (a_o_keptTold := a_o_keptTold) (a_o_keptLast := a_o_keptLast) (a_o_keptOften := a_o_keptOften) (a_o_kind := a_o_kind) (a_o_traced := a_o_traced) (a_o_holds := a_o_holds) (a_o_size := a_o_size) (a_o_elements := a_o_elements) (a_o_shifted := a_o_shifted) (x_o_code := x_o_code) (x_o_lamps := x_o_lamps) (x_o_at := x_o_at) (x_o_night := x_o_night) (x_o_spent := x_o_spent) (x_o_rest := x_o_rest) (x_o_shy := x_o_shy) (x_o_hasBegun := x_o_hasBegun) (x_o_doneMany := x_o_doneMany) (x_o_undoneMany := x_o_undoneMany) (x_o_taped := x_o_taped) (x_o_here := x_o_here) (x_o_fault := x_o_fault) (x_o_open := x_o_open) (x_o_laid := x_o_laid) (x_o_hasLaw := x_o_hasLaw) (x_o_bestMany := x_o_bestMany) (x_o_wasAt := x_o_wasAt) (x_o_wasNight := x_o_wasNight) (x_o_hasImage := x_o_hasImage) (x_o_keptLamps := x_o_keptLamps) (x_o_keptAt := x_o_keptAt) (x_o_keptNight := x_o_keptNight) (x_o_keptSpent := x_o_keptSpent) (x_o_bodies := x_o_bodies)   hc11) yy_Mo_resting kf_Mo rfl mw_6_170 d_Mo_plainTells_16 rfl [.int r4] rfl rfl (Nat.le_of_ble_eq_true rfl) ⟨Nat.le_of_ble_eq_true rfl, Nat.le_of_ble_eq_true rfl⟩ rfl rfl (Nat.zero_le _) (Nat.zero_le _) 0 rfl [0, 2, 1] rfl (by decide +kernel) rfl (g_lay_sel _ _ _ _ [(0, true), (2, true), (1, true)] (by decide +kernel) rfl (by decide +kernel) rfl rfl) rfl ?_
  refine g_isub (pc' := 20) C d_Mo_plainTells_19 rfl ?_
  replace hf := g_o2 hf; obtain ⟨h1, hf⟩ := hf; subst h1
  replace hf := g_o2 hf; obtain ⟨h1, hf⟩ := hf; subst h1
  replace hf := Option.some.inj hf; subst hf
  exact g_iret C d_Mo_plainTells_20 () rfl
def y_Mo_ruleTells : MethodName := ⟨"OneLampModel", "ruleTells", "(II)I"⟩
theorem yy_Mo_ruleTells : YV y_Mo_ruleTells prog_13_method_89_code 3 (some .int) 2 := ⟨mw_6_185, mw_1_12, mw_6_184, tm_s (y := y_Mo_ruleTells) (n := 58) (by decide +kernel), by decide +kernel, by decide +kernel, by decide +kernel⟩
theorem d_Mo_ruleTells_0 : decode prog_13_method_89_code 0 = .ok (.aload_n 0, 1) := by decide +kernel
theorem d_Mo_ruleTells_1 : decode prog_13_method_89_code 1 = .ok (.bipush 50, 2) := by decide +kernel
theorem d_Mo_ruleTells_3 : decode prog_13_method_89_code 3 = .ok (.invokevirtual 354, 3) := by decide +kernel
theorem d_Mo_ruleTells_6 : decode prog_13_method_89_code 6 = .ok (.aload_n 0, 1) := by decide +kernel
theorem d_Mo_ruleTells_7 : decode prog_13_method_89_code 7 = .ok (.iload_n 1, 1) := by decide +kernel
theorem d_Mo_ruleTells_8 : decode prog_13_method_89_code 8 = .ok (.iload_n 2, 1) := by decide +kernel
theorem d_Mo_ruleTells_9 : decode prog_13_method_89_code 9 = .ok (.invokevirtual 385, 3) := by decide +kernel
theorem d_Mo_ruleTells_12 : decode prog_13_method_89_code 12 = .ok (.iconst 5, 1) := by decide +kernel
theorem d_Mo_ruleTells_13 : decode prog_13_method_89_code 13 = .ok (.ixor, 1) := by decide +kernel
theorem d_Mo_ruleTells_14 : decode prog_13_method_89_code 14 = .ok (.ireturn, 1) := by decide +kernel
def f_Mo_ruleTells  (p1 : Int32) (p2 : Int32) (x_o_traces : Int32) (x_o_traced : Nat → Int32) (x_o_kind : Nat → Int32) : Option (Int32 × Int32 × (Nat → Int32)) :=
  (f_Mo_ran  (50 : Int32) x_o_traces x_o_traced).bind fun (u1, u2) =>
  (f_Mo_plainTells  p1 p2 u1 u2 x_o_kind).bind fun (r4, u5, u6) =>
  some ((r4 ^^^ (5 : Int32)), u5, u6)
set_option maxRecDepth 20000 in
theorem c_Mo_ruleTells {l : Launch} {D : va_G} {dA : Nat → ClassId} {a_o a_o_had a_o_told a_o_barred a_o_cost a_o_last a_o_often a_o_changeOf a_o_changeAt a_o_before a_o_behind a_o_tape a_o_act a_o_with a_o_lineMany a_o_testEnd a_o_lineEnd a_o_facts a_o_pile a_o_way a_o_bestWay a_o_wasHad a_o_wasLast a_o_keptHad a_o_keptTold a_o_keptLast a_o_keptOften a_o_kind a_o_traced a_o_holds a_o_size a_o_elements a_o_shifted : Nat} {x_o_code : Int32} {x_o_lamps : Int32} {x_o_at : Int32} {x_o_night : Int32} {x_o_spent : Int32} {x_o_rest : Int32} {x_o_shy : Int32} {x_o_hasBegun : Bool} {x_o_doneMany : Int32} {x_o_undoneMany : Int32} {x_o_taped : Int32} {x_o_here : Int32} {x_o_fault : Int32} {x_o_open : Int32} {x_o_laid : Int32} {x_o_hasLaw : Bool} {x_o_bestMany : Int32} {x_o_wasAt : Int32} {x_o_wasNight : Int32} {x_o_hasImage : Bool} {x_o_keptLamps : Int32} {x_o_keptAt : Int32} {x_o_keptNight : Int32} {x_o_keptSpent : Int32} {x_o_bodies : Int32} {p1 : Int32} {p2 : Int32} {x_o_traces : Int32} {x_o_traced : Nat → Int32} {x_o_kind : Nat → Int32} {r0 : Int32} {o_x_o_traces : Int32} {o_x_o_traced : Nat → Int32}   (hf : f_Mo_ruleTells  p1 p2 x_o_traces x_o_traced x_o_kind = some (r0, o_x_o_traces, o_x_o_traced)) : CT l y_Mo_ruleTells prog_13_method_89_code 3 (some .int) { frames := 8, cells := 0, slots := 0, locals := 177 } D dA [.ref a_o, .int p1, .int p2] [O_Mo a_o x_o_code x_o_lamps x_o_at x_o_night x_o_spent x_o_rest x_o_shy a_o_had a_o_told a_o_barred a_o_cost a_o_last a_o_often x_o_hasBegun x_o_doneMany x_o_undoneMany a_o_changeOf a_o_changeAt a_o_before a_o_behind a_o_tape x_o_taped x_o_here x_o_fault x_o_open x_o_laid a_o_act a_o_with a_o_lineMany a_o_testEnd a_o_lineEnd a_o_facts a_o_pile x_o_hasLaw a_o_way a_o_bestWay x_o_bestMany a_o_wasHad a_o_wasLast x_o_wasAt x_o_wasNight x_o_hasImage x_o_keptLamps x_o_keptAt x_o_keptNight x_o_keptSpent a_o_keptHad a_o_keptTold a_o_keptLast a_o_keptOften x_o_bodies a_o_kind x_o_traces a_o_traced a_o_holds a_o_size a_o_elements a_o_shifted, A_I dA a_o_traced 24 x_o_traced, A_I dA a_o_kind 50 x_o_kind] (some (.int r0)) (fun _ : Unit => [O_Mo a_o x_o_code x_o_lamps x_o_at x_o_night x_o_spent x_o_rest x_o_shy a_o_had a_o_told a_o_barred a_o_cost a_o_last a_o_often x_o_hasBegun x_o_doneMany x_o_undoneMany a_o_changeOf a_o_changeAt a_o_before a_o_behind a_o_tape x_o_taped x_o_here x_o_fault x_o_open x_o_laid a_o_act a_o_with a_o_lineMany a_o_testEnd a_o_lineEnd a_o_facts a_o_pile x_o_hasLaw a_o_way a_o_bestWay x_o_bestMany a_o_wasHad a_o_wasLast x_o_wasAt x_o_wasNight x_o_hasImage x_o_keptLamps x_o_keptAt x_o_keptNight x_o_keptSpent a_o_keptHad a_o_keptTold a_o_keptLast a_o_keptOften x_o_bodies a_o_kind o_x_o_traces a_o_traced a_o_holds a_o_size a_o_elements a_o_shifted, A_I dA a_o_traced 24 o_x_o_traced, A_I dA a_o_kind 50 x_o_kind]) := by
  refine ct_intro "OneLampModel" rfl (by decide +kernel) (Nat.le_of_ble_eq_true rfl) [(0, .ref a_o), (1, .int p1), (2, .int p2)] rfl (fun _ C => ?_)
  unfold f_Mo_ruleTells at hf
  refine g_aload_n (pc' := 1) C 0 d_Mo_ruleTells_0 rfl rfl ?_
  refine g_bipush (pc' := 3) (v := 50) C d_Mo_ruleTells_1 rfl rfl ?_
  replace hf := g_bi hf; obtain ⟨⟨u1, u2⟩, hc3, hf⟩ := hf
  dsimp only at hf
  refine g_callV (pc' := 6) (st1 := []) (ws1 := [O_Mo a_o x_o_code x_o_lamps x_o_at x_o_night x_o_spent x_o_rest x_o_shy a_o_had a_o_told a_o_barred a_o_cost a_o_last a_o_often x_o_hasBegun x_o_doneMany x_o_undoneMany a_o_changeOf a_o_changeAt a_o_before a_o_behind a_o_tape x_o_taped x_o_here x_o_fault x_o_open x_o_laid a_o_act a_o_with a_o_lineMany a_o_testEnd a_o_lineEnd a_o_facts a_o_pile x_o_hasLaw a_o_way a_o_bestWay x_o_bestMany a_o_wasHad a_o_wasLast x_o_wasAt x_o_wasNight x_o_hasImage x_o_keptLamps x_o_keptAt x_o_keptNight x_o_keptSpent a_o_keptHad a_o_keptTold a_o_keptLast a_o_keptOften x_o_bodies a_o_kind u1 a_o_traced a_o_holds a_o_size a_o_elements a_o_shifted, A_I dA a_o_traced 24 u2, A_I dA a_o_kind 50 x_o_kind]) C (c_Mo_ran (l := l) (D := D) (dA := dA) (a_o := a_o) (a_o_had := a_o_had) (a_o_told := a_o_told) (a_o_barred := a_o_barred) (a_o_cost := a_o_cost) (a_o_last := a_o_last) (a_o_often := a_o_often) (a_o_changeOf := a_o_changeOf) (a_o_changeAt := a_o_changeAt) (a_o_before := a_o_before) (a_o_behind := a_o_behind) (a_o_tape := a_o_tape) (a_o_act := a_o_act) (a_o_with := a_o_with) (a_o_lineMany := a_o_lineMany) (a_o_testEnd := a_o_testEnd) (a_o_lineEnd := a_o_lineEnd) (a_o_facts := a_o_facts) (a_o_pile := a_o_pile) (a_o_way := a_o_way) (a_o_bestWay := a_o_bestWay) (a_o_wasHad := a_o_wasHad) (a_o_wasLast := a_o_wasLast) (a_o_keptHad := a_o_keptHad) (a_o_keptTold := a_o_keptTold) (a_o_keptLast := a_o_keptLast) (a_o_keptOften := a_o_keptOften) (a_o_kind := a_o_kind) (a_o_traced := a_o_traced) (a_o_holds := a_o_holds) (a_o_size := a_o_size) (a_o_elements := a_o_elements) (a_o_shifted := a_o_shifted) (x_o_code := x_o_code) (x_o_lamps := x_o_lamps) (x_o_at := x_o_at) (x_o_night := x_o_night) (x_o_spent := x_o_spent) (x_o_rest := x_o_rest) (x_o_shy := x_o_shy) (x_o_hasBegun := x_o_hasBegun) (x_o_doneMany := x_o_doneMany) (x_o_undoneMany := x_o_undoneMany) (x_o_taped := x_o_taped) (x_o_here := x_o_here) (x_o_fault := x_o_fault) (x_o_open := x_o_open) (x_o_laid := x_o_laid) (x_o_hasLaw := x_o_hasLaw) (x_o_bestMany := x_o_bestMany) (x_o_wasAt := x_o_wasAt) (x_o_wasNight := x_o_wasNight) (x_o_hasImage := x_o_hasImage) (x_o_keptLamps := x_o_keptLamps) (x_o_keptAt := x_o_keptAt) (x_o_keptNight := x_o_keptNight) (x_o_keptSpent := x_o_keptSpent) (x_o_bodies := x_o_bodies)   hc3) yy_Mo_ran kf_Mo rfl mw_6_146 d_Mo_ruleTells_3 rfl [] rfl rfl (Nat.le_of_ble_eq_true rfl) ⟨Nat.le_of_ble_eq_true rfl, Nat.le_of_ble_eq_true rfl⟩ rfl rfl (Nat.zero_le _) (Nat.zero_le _) 0 rfl [0, 1] rfl (by decide +kernel) rfl (g_lay_sel _ _ _ _ [(0, true), (1, true), (2, false)] (by decide +kernel) rfl (by decide +kernel) rfl rfl) rfl ?_
  refine g_aload_n (pc' := 7) C 0 d_Mo_ruleTells_6 rfl rfl ?_
  refine g_iload_n (pc' := 8) C 1 d_Mo_ruleTells_7 rfl rfl ?_
  refine g_iload_n (pc' := 9) C 2 d_Mo_ruleTells_8 rfl rfl ?_
  replace hf := g_bi hf; obtain ⟨⟨r4, u5, u6⟩, hc7, hf⟩ := hf
  dsimp only at hf
  refine g_callV (pc' := 12) (st1 := [.int r4]) (ws1 := [O_Mo a_o x_o_code x_o_lamps x_o_at x_o_night x_o_spent x_o_rest x_o_shy a_o_had a_o_told a_o_barred a_o_cost a_o_last a_o_often x_o_hasBegun x_o_doneMany x_o_undoneMany a_o_changeOf a_o_changeAt a_o_before a_o_behind a_o_tape x_o_taped x_o_here x_o_fault x_o_open x_o_laid a_o_act a_o_with a_o_lineMany a_o_testEnd a_o_lineEnd a_o_facts a_o_pile x_o_hasLaw a_o_way a_o_bestWay x_o_bestMany a_o_wasHad a_o_wasLast x_o_wasAt x_o_wasNight x_o_hasImage x_o_keptLamps x_o_keptAt x_o_keptNight x_o_keptSpent a_o_keptHad a_o_keptTold a_o_keptLast a_o_keptOften x_o_bodies a_o_kind u5 a_o_traced a_o_holds a_o_size a_o_elements a_o_shifted, A_I dA a_o_traced 24 u6, A_I dA a_o_kind 50 x_o_kind]) C (c_Mo_plainTells (l := l) (D := D) (dA := dA) (a_o := a_o) (a_o_had := a_o_had) (a_o_told := a_o_told) (a_o_barred := a_o_barred) (a_o_cost := a_o_cost) (a_o_last := a_o_last) (a_o_often := a_o_often) (a_o_changeOf := a_o_changeOf) (a_o_changeAt := a_o_changeAt) (a_o_before := a_o_before) (a_o_behind := a_o_behind) (a_o_tape := a_o_tape) (a_o_act := a_o_act) (a_o_with := a_o_with) (a_o_lineMany := a_o_lineMany) (a_o_testEnd := a_o_testEnd) (a_o_lineEnd := a_o_lineEnd) (a_o_facts := a_o_facts) (a_o_pile := a_o_pile) (a_o_way := a_o_way) (a_o_bestWay := a_o_bestWay) (a_o_wasHad := a_o_wasHad) (a_o_wasLast := a_o_wasLast) (a_o_keptHad := a_o_keptHad) (a_o_keptTold := a_o_keptTold) (a_o_keptLast := a_o_keptLast) (a_o_keptOften := a_o_keptOften) (a_o_kind := a_o_kind) (a_o_traced := a_o_traced) (a_o_holds := a_o_holds) (a_o_size := a_o_size) (a_o_elements := a_o_elements) (a_o_shifted := a_o_shifted) (x_o_code := x_o_code) (x_o_lamps := x_o_lamps) (x_o_at := x_o_at) (x_o_night := x_o_night) (x_o_spent := x_o_spent) (x_o_rest := x_o_rest) (x_o_shy := x_o_shy) (x_o_hasBegun := x_o_hasBegun) (x_o_doneMany := x_o_doneMany) (x_o_undoneMany := x_o_undoneMany) (x_o_taped := x_o_taped) (x_o_here := x_o_here) (x_o_fault := x_o_fault) (x_o_open := x_o_open) (x_o_laid := x_o_laid) (x_o_hasLaw := x_o_hasLaw) (x_o_bestMany := x_o_bestMany) (x_o_wasAt := x_o_wasAt) (x_o_wasNight := x_o_wasNight) (x_o_hasImage := x_o_hasImage) (x_o_keptLamps := x_o_keptLamps) (x_o_keptAt := x_o_keptAt) (x_o_keptNight := x_o_keptNight) (x_o_keptSpent := x_o_keptSpent) (x_o_bodies := x_o_bodies)   hc7) yy_Mo_plainTells kf_Mo rfl mw_6_186 d_Mo_ruleTells_9 rfl [] rfl rfl (Nat.le_of_ble_eq_true rfl) ⟨Nat.le_of_ble_eq_true rfl, Nat.le_of_ble_eq_true rfl⟩ rfl rfl (Nat.zero_le _) (Nat.zero_le _) 0 rfl [0, 1, 2] rfl (by decide +kernel) rfl (g_lay_sel _ _ _ _ [(0, true), (1, true), (2, true)] (by decide +kernel) rfl (by decide +kernel) rfl rfl) rfl ?_
  refine g_iconst (pc' := 13) (v := 5) C d_Mo_ruleTells_12 rfl rfl ?_
  refine g_ixor (pc' := 14) C d_Mo_ruleTells_13 rfl ?_
  replace hf := g_o2 hf; obtain ⟨h1, hf⟩ := hf; subst h1
  replace hf := g_o2 hf; obtain ⟨h1, hf⟩ := hf; subst h1
  replace hf := Option.some.inj hf; subst hf
  exact g_iret C d_Mo_ruleTells_14 () rfl
def y_Mo_telling : MethodName := ⟨"OneLampModel", "telling", "(II)I"⟩
theorem yy_Mo_telling : YV y_Mo_telling prog_13_method_90_code 3 (some .int) 2 := ⟨mw_6_181, mw_1_12, mw_6_180, tm_s (y := y_Mo_telling) (n := 58) (by decide +kernel), by decide +kernel, by decide +kernel, by decide +kernel⟩
theorem d_Mo_telling_0 : decode prog_13_method_90_code 0 = .ok (.aload_n 0, 1) := by decide +kernel
theorem d_Mo_telling_1 : decode prog_13_method_90_code 1 = .ok (.getfield 95, 3) := by decide +kernel
theorem d_Mo_telling_4 : decode prog_13_method_90_code 4 = .ok (.iload_n 1, 1) := by decide +kernel
theorem d_Mo_telling_5 : decode prog_13_method_90_code 5 = .ok (.iaload, 1) := by decide +kernel
theorem d_Mo_telling_6 : decode prog_13_method_90_code 6 = .ok (.iconst 5, 1) := by decide +kernel
theorem d_Mo_telling_7 : decode prog_13_method_90_code 7 = .ok (.if_icmp .ne 18, 3) := by decide +kernel
theorem d_Mo_telling_10 : decode prog_13_method_90_code 10 = .ok (.aload_n 0, 1) := by decide +kernel
theorem d_Mo_telling_11 : decode prog_13_method_90_code 11 = .ok (.bipush 61, 2) := by decide +kernel
theorem d_Mo_telling_13 : decode prog_13_method_90_code 13 = .ok (.invokevirtual 354, 3) := by decide +kernel
theorem d_Mo_telling_16 : decode prog_13_method_90_code 16 = .ok (.aload_n 0, 1) := by decide +kernel
theorem d_Mo_telling_17 : decode prog_13_method_90_code 17 = .ok (.iload_n 1, 1) := by decide +kernel
theorem d_Mo_telling_18 : decode prog_13_method_90_code 18 = .ok (.iload_n 2, 1) := by decide +kernel
theorem d_Mo_telling_19 : decode prog_13_method_90_code 19 = .ok (.invokevirtual 388, 3) := by decide +kernel
theorem d_Mo_telling_22 : decode prog_13_method_90_code 22 = .ok (.iconst 1, 1) := by decide +kernel
theorem d_Mo_telling_23 : decode prog_13_method_90_code 23 = .ok (.iadd, 1) := by decide +kernel
theorem d_Mo_telling_24 : decode prog_13_method_90_code 24 = .ok (.ireturn, 1) := by decide +kernel
theorem d_Mo_telling_25 : decode prog_13_method_90_code 25 = .ok (.aload_n 0, 1) := by decide +kernel
theorem d_Mo_telling_26 : decode prog_13_method_90_code 26 = .ok (.getfield 95, 3) := by decide +kernel
theorem d_Mo_telling_29 : decode prog_13_method_90_code 29 = .ok (.iload_n 1, 1) := by decide +kernel
theorem d_Mo_telling_30 : decode prog_13_method_90_code 30 = .ok (.iaload, 1) := by decide +kernel
theorem d_Mo_telling_31 : decode prog_13_method_90_code 31 = .ok (.iconst 4, 1) := by decide +kernel
theorem d_Mo_telling_32 : decode prog_13_method_90_code 32 = .ok (.if_icmp .ne 12, 3) := by decide +kernel
theorem d_Mo_telling_35 : decode prog_13_method_90_code 35 = .ok (.aload_n 0, 1) := by decide +kernel
theorem d_Mo_telling_36 : decode prog_13_method_90_code 36 = .ok (.iload_n 1, 1) := by decide +kernel
theorem d_Mo_telling_37 : decode prog_13_method_90_code 37 = .ok (.iload_n 2, 1) := by decide +kernel
theorem d_Mo_telling_38 : decode prog_13_method_90_code 38 = .ok (.invokevirtual 388, 3) := by decide +kernel
theorem d_Mo_telling_41 : decode prog_13_method_90_code 41 = .ok (.goto 9, 3) := by decide +kernel
theorem d_Mo_telling_44 : decode prog_13_method_90_code 44 = .ok (.aload_n 0, 1) := by decide +kernel
theorem d_Mo_telling_45 : decode prog_13_method_90_code 45 = .ok (.iload_n 1, 1) := by decide +kernel
theorem d_Mo_telling_46 : decode prog_13_method_90_code 46 = .ok (.iload_n 2, 1) := by decide +kernel
theorem d_Mo_telling_47 : decode prog_13_method_90_code 47 = .ok (.invokevirtual 385, 3) := by decide +kernel
theorem d_Mo_telling_50 : decode prog_13_method_90_code 50 = .ok (.ireturn, 1) := by decide +kernel
def f_Mo_telling  (p1 : Int32) (p2 : Int32) (x_o_traces : Int32) (x_o_kind : Nat → Int32) (x_o_traced : Nat → Int32) : Option (Int32 × Int32 × (Nat → Int32)) :=
  if p1 < 0 ∨ 50 ≤ Int32.toNatClampNeg p1 then none else
  if (x_o_kind (Int32.toNatClampNeg p1)) = (5 : Int32) then
    ((f_Mo_ran  (61 : Int32) x_o_traces x_o_traced).bind fun (u9, u10) =>
    (f_Mo_ruleTells  p1 p2 u9 u10 x_o_kind).bind fun (r12, u13, u14) =>
    some ((r12 + (1 : Int32)), u13, u14))
  else
    (if p1 < 0 ∨ 50 ≤ Int32.toNatClampNeg p1 then none else
    if (x_o_kind (Int32.toNatClampNeg p1)) = (4 : Int32) then
      ((f_Mo_ruleTells  p1 p2 x_o_traces x_o_traced x_o_kind).bind fun (r5, u6, u7) =>
      some (r5, u6, u7))
    else
      ((f_Mo_plainTells  p1 p2 x_o_traces x_o_traced x_o_kind).bind fun (r1, u2, u3) =>
      some (r1, u2, u3)))
set_option maxRecDepth 20000 in
theorem c_Mo_telling {l : Launch} {D : va_G} {dA : Nat → ClassId} {a_o a_o_had a_o_told a_o_barred a_o_cost a_o_last a_o_often a_o_changeOf a_o_changeAt a_o_before a_o_behind a_o_tape a_o_act a_o_with a_o_lineMany a_o_testEnd a_o_lineEnd a_o_facts a_o_pile a_o_way a_o_bestWay a_o_wasHad a_o_wasLast a_o_keptHad a_o_keptTold a_o_keptLast a_o_keptOften a_o_kind a_o_traced a_o_holds a_o_size a_o_elements a_o_shifted : Nat} {x_o_code : Int32} {x_o_lamps : Int32} {x_o_at : Int32} {x_o_night : Int32} {x_o_spent : Int32} {x_o_rest : Int32} {x_o_shy : Int32} {x_o_hasBegun : Bool} {x_o_doneMany : Int32} {x_o_undoneMany : Int32} {x_o_taped : Int32} {x_o_here : Int32} {x_o_fault : Int32} {x_o_open : Int32} {x_o_laid : Int32} {x_o_hasLaw : Bool} {x_o_bestMany : Int32} {x_o_wasAt : Int32} {x_o_wasNight : Int32} {x_o_hasImage : Bool} {x_o_keptLamps : Int32} {x_o_keptAt : Int32} {x_o_keptNight : Int32} {x_o_keptSpent : Int32} {x_o_bodies : Int32} {p1 : Int32} {p2 : Int32} {x_o_traces : Int32} {x_o_kind : Nat → Int32} {x_o_traced : Nat → Int32} {r0 : Int32} {o_x_o_traces : Int32} {o_x_o_traced : Nat → Int32}   (hf : f_Mo_telling  p1 p2 x_o_traces x_o_kind x_o_traced = some (r0, o_x_o_traces, o_x_o_traced)) : CT l y_Mo_telling prog_13_method_90_code 3 (some .int) { frames := 9, cells := 0, slots := 0, locals := 199 } D dA [.ref a_o, .int p1, .int p2] [O_Mo a_o x_o_code x_o_lamps x_o_at x_o_night x_o_spent x_o_rest x_o_shy a_o_had a_o_told a_o_barred a_o_cost a_o_last a_o_often x_o_hasBegun x_o_doneMany x_o_undoneMany a_o_changeOf a_o_changeAt a_o_before a_o_behind a_o_tape x_o_taped x_o_here x_o_fault x_o_open x_o_laid a_o_act a_o_with a_o_lineMany a_o_testEnd a_o_lineEnd a_o_facts a_o_pile x_o_hasLaw a_o_way a_o_bestWay x_o_bestMany a_o_wasHad a_o_wasLast x_o_wasAt x_o_wasNight x_o_hasImage x_o_keptLamps x_o_keptAt x_o_keptNight x_o_keptSpent a_o_keptHad a_o_keptTold a_o_keptLast a_o_keptOften x_o_bodies a_o_kind x_o_traces a_o_traced a_o_holds a_o_size a_o_elements a_o_shifted, A_I dA a_o_kind 50 x_o_kind, A_I dA a_o_traced 24 x_o_traced] (some (.int r0)) (fun _ : Unit => [O_Mo a_o x_o_code x_o_lamps x_o_at x_o_night x_o_spent x_o_rest x_o_shy a_o_had a_o_told a_o_barred a_o_cost a_o_last a_o_often x_o_hasBegun x_o_doneMany x_o_undoneMany a_o_changeOf a_o_changeAt a_o_before a_o_behind a_o_tape x_o_taped x_o_here x_o_fault x_o_open x_o_laid a_o_act a_o_with a_o_lineMany a_o_testEnd a_o_lineEnd a_o_facts a_o_pile x_o_hasLaw a_o_way a_o_bestWay x_o_bestMany a_o_wasHad a_o_wasLast x_o_wasAt x_o_wasNight x_o_hasImage x_o_keptLamps x_o_keptAt x_o_keptNight x_o_keptSpent a_o_keptHad a_o_keptTold a_o_keptLast a_o_keptOften x_o_bodies a_o_kind o_x_o_traces a_o_traced a_o_holds a_o_size a_o_elements a_o_shifted, A_I dA a_o_kind 50 x_o_kind, A_I dA a_o_traced 24 o_x_o_traced]) := by
  refine ct_intro "OneLampModel" rfl (by decide +kernel) (Nat.le_of_ble_eq_true rfl) [(0, .ref a_o), (1, .int p1), (2, .int p2)] rfl (fun _ C => ?_)
  unfold f_Mo_telling at hf
  refine g_aload_n (pc' := 1) C 0 d_Mo_telling_0 rfl rfl ?_
  refine g_get (pc' := 4) C kf_Mo 51 mw_4_189 d_Mo_telling_1 rfl 0 rfl (by decide) rfl ?_
  refine g_iload_n (pc' := 5) C 1 d_Mo_telling_4 rfl rfl ?_
  have hb := g_ck hf
  replace hf := g_in hb hf
  refine g_iald (pc' := 6) C d_Mo_telling_5 rfl 1 rfl hb ?_
  refine g_iconst (pc' := 7) (v := 5) C d_Mo_telling_6 rfl rfl ?_
  refine g_icmp_ne (pc' := 10) (tgt := 25) C d_Mo_telling_7 rfl rfl (fun h => ?_) (fun h => ?_)
  · replace hf := g_in h hf
    refine g_aload_n (pc' := 26) C 0 d_Mo_telling_25 rfl rfl ?_
    refine g_get (pc' := 29) C kf_Mo 51 mw_4_189 d_Mo_telling_26 rfl 0 rfl (by decide) rfl ?_
    refine g_iload_n (pc' := 30) C 1 d_Mo_telling_29 rfl rfl ?_
    have hb := g_ck hf
    replace hf := g_in hb hf
    refine g_iald (pc' := 31) C d_Mo_telling_30 rfl 1 rfl hb ?_
    refine g_iconst (pc' := 32) (v := 4) C d_Mo_telling_31 rfl rfl ?_
    refine g_icmp_ne (pc' := 35) (tgt := 44) C d_Mo_telling_32 rfl rfl (fun h => ?_) (fun h => ?_)
    · replace hf := g_in h hf
      refine g_aload_n (pc' := 45) C 0 d_Mo_telling_44 rfl rfl ?_
      refine g_iload_n (pc' := 46) C 1 d_Mo_telling_45 rfl rfl ?_
      refine g_iload_n (pc' := 47) C 2 d_Mo_telling_46 rfl rfl ?_
      replace hf := g_bi hf; obtain ⟨⟨r1, u2, u3⟩, hc4, hf⟩ := hf
      dsimp only at hf
      refine g_callV (pc' := 50) (st1 := [.int r1]) (ws1 := [O_Mo a_o x_o_code x_o_lamps x_o_at x_o_night x_o_spent x_o_rest x_o_shy a_o_had a_o_told a_o_barred a_o_cost a_o_last a_o_often x_o_hasBegun x_o_doneMany x_o_undoneMany a_o_changeOf a_o_changeAt a_o_before a_o_behind a_o_tape x_o_taped x_o_here x_o_fault x_o_open x_o_laid a_o_act a_o_with a_o_lineMany a_o_testEnd a_o_lineEnd a_o_facts a_o_pile x_o_hasLaw a_o_way a_o_bestWay x_o_bestMany a_o_wasHad a_o_wasLast x_o_wasAt x_o_wasNight x_o_hasImage x_o_keptLamps x_o_keptAt x_o_keptNight x_o_keptSpent a_o_keptHad a_o_keptTold a_o_keptLast a_o_keptOften x_o_bodies a_o_kind u2 a_o_traced a_o_holds a_o_size a_o_elements a_o_shifted, A_I dA a_o_kind 50 x_o_kind, A_I dA a_o_traced 24 u3]) C (c_Mo_plainTells (l := l) (D := D) (dA := dA) (a_o := a_o) (a_o_had := a_o_had) (a_o_told := a_o_told) (a_o_barred := a_o_barred) (a_o_cost := a_o_cost) (a_o_last := a_o_last) (a_o_often := a_o_often) (a_o_changeOf := a_o_changeOf) (a_o_changeAt := a_o_changeAt) (a_o_before := a_o_before) (a_o_behind := a_o_behind) (a_o_tape := a_o_tape) (a_o_act := a_o_act) (a_o_with := a_o_with) (a_o_lineMany := a_o_lineMany) (a_o_testEnd := a_o_testEnd) (a_o_lineEnd := a_o_lineEnd) (a_o_facts := a_o_facts) (a_o_pile := a_o_pile) (a_o_way := a_o_way) (a_o_bestWay := a_o_bestWay) (a_o_wasHad := a_o_wasHad) (a_o_wasLast := a_o_wasLast) (a_o_keptHad := a_o_keptHad) (a_o_keptTold := a_o_keptTold) (a_o_keptLast := a_o_keptLast) (a_o_keptOften := a_o_keptOften) (a_o_kind := a_o_kind) (a_o_traced := a_o_traced) (a_o_holds := a_o_holds) (a_o_size := a_o_size) (a_o_elements := a_o_elements) (a_o_shifted := a_o_shifted) (x_o_code := x_o_code) (x_o_lamps := x_o_lamps) (x_o_at := x_o_at) (x_o_night := x_o_night) (x_o_spent := x_o_spent) (x_o_rest := x_o_rest) (x_o_shy := x_o_shy) (x_o_hasBegun := x_o_hasBegun) (x_o_doneMany := x_o_doneMany) (x_o_undoneMany := x_o_undoneMany) (x_o_taped := x_o_taped) (x_o_here := x_o_here) (x_o_fault := x_o_fault) (x_o_open := x_o_open) (x_o_laid := x_o_laid) (x_o_hasLaw := x_o_hasLaw) (x_o_bestMany := x_o_bestMany) (x_o_wasAt := x_o_wasAt) (x_o_wasNight := x_o_wasNight) (x_o_hasImage := x_o_hasImage) (x_o_keptLamps := x_o_keptLamps) (x_o_keptAt := x_o_keptAt) (x_o_keptNight := x_o_keptNight) (x_o_keptSpent := x_o_keptSpent) (x_o_bodies := x_o_bodies)   hc4) yy_Mo_plainTells kf_Mo rfl mw_6_186 d_Mo_telling_47 rfl [] rfl rfl (Nat.le_of_ble_eq_true rfl) ⟨Nat.le_of_ble_eq_true rfl, Nat.le_of_ble_eq_true rfl⟩ rfl rfl (Nat.zero_le _) (Nat.zero_le _) 0 rfl [0, 2, 1] rfl (by decide +kernel) rfl (g_lay_sel _ _ _ _ [(0, true), (2, true), (1, true)] (by decide +kernel) rfl (by decide +kernel) rfl rfl) rfl ?_
      replace hf := g_o2 hf; obtain ⟨h1, hf⟩ := hf; subst h1
      replace hf := g_o2 hf; obtain ⟨h1, hf⟩ := hf; subst h1
      replace hf := Option.some.inj hf; subst hf
      exact g_iret C d_Mo_telling_50 () rfl
    · replace hf := g_ip h hf
      refine g_aload_n (pc' := 36) C 0 d_Mo_telling_35 rfl rfl ?_
      refine g_iload_n (pc' := 37) C 1 d_Mo_telling_36 rfl rfl ?_
      refine g_iload_n (pc' := 38) C 2 d_Mo_telling_37 rfl rfl ?_
      replace hf := g_bi hf; obtain ⟨⟨r5, u6, u7⟩, hc8, hf⟩ := hf
      dsimp only at hf
      refine g_callV (pc' := 41) (st1 := [.int r5]) (ws1 := [O_Mo a_o x_o_code x_o_lamps x_o_at x_o_night x_o_spent x_o_rest x_o_shy a_o_had a_o_told a_o_barred a_o_cost a_o_last a_o_often x_o_hasBegun x_o_doneMany x_o_undoneMany a_o_changeOf a_o_changeAt a_o_before a_o_behind a_o_tape x_o_taped x_o_here x_o_fault x_o_open x_o_laid a_o_act a_o_with a_o_lineMany a_o_testEnd a_o_lineEnd a_o_facts a_o_pile x_o_hasLaw a_o_way a_o_bestWay x_o_bestMany a_o_wasHad a_o_wasLast x_o_wasAt x_o_wasNight x_o_hasImage x_o_keptLamps x_o_keptAt x_o_keptNight x_o_keptSpent a_o_keptHad a_o_keptTold a_o_keptLast a_o_keptOften x_o_bodies a_o_kind u6 a_o_traced a_o_holds a_o_size a_o_elements a_o_shifted, A_I dA a_o_kind 50 x_o_kind, A_I dA a_o_traced 24 u7]) C (c_Mo_ruleTells (l := l) (D := D) (dA := dA) (a_o := a_o) (a_o_had := a_o_had) (a_o_told := a_o_told) (a_o_barred := a_o_barred) (a_o_cost := a_o_cost) (a_o_last := a_o_last) (a_o_often := a_o_often) (a_o_changeOf := a_o_changeOf) (a_o_changeAt := a_o_changeAt) (a_o_before := a_o_before) (a_o_behind := a_o_behind) (a_o_tape := a_o_tape) (a_o_act := a_o_act) (a_o_with := a_o_with) (a_o_lineMany := a_o_lineMany) (a_o_testEnd := a_o_testEnd) (a_o_lineEnd := a_o_lineEnd) (a_o_facts := a_o_facts) (a_o_pile := a_o_pile) (a_o_way := a_o_way) (a_o_bestWay := a_o_bestWay) (a_o_wasHad := a_o_wasHad) (a_o_wasLast := a_o_wasLast) (a_o_keptHad := a_o_keptHad) (a_o_keptTold := a_o_keptTold) (a_o_keptLast := a_o_keptLast) (a_o_keptOften := a_o_keptOften) (a_o_kind := a_o_kind) (a_o_traced := a_o_traced) (a_o_holds := a_o_holds) (a_o_size := a_o_size) (a_o_elements := a_o_elements) (a_o_shifted := a_o_shifted) (x_o_code := x_o_code) (x_o_lamps := x_o_lamps) (x_o_at := x_o_at) (x_o_night := x_o_night) (x_o_spent := x_o_spent) (x_o_rest := x_o_rest) (x_o_shy := x_o_shy) (x_o_hasBegun := x_o_hasBegun) (x_o_doneMany := x_o_doneMany) (x_o_undoneMany := x_o_undoneMany) (x_o_taped := x_o_taped) (x_o_here := x_o_here) (x_o_fault := x_o_fault) (x_o_open := x_o_open) (x_o_laid := x_o_laid) (x_o_hasLaw := x_o_hasLaw) (x_o_bestMany := x_o_bestMany) (x_o_wasAt := x_o_wasAt) (x_o_wasNight := x_o_wasNight) (x_o_hasImage := x_o_hasImage) (x_o_keptLamps := x_o_keptLamps) (x_o_keptAt := x_o_keptAt) (x_o_keptNight := x_o_keptNight) (x_o_keptSpent := x_o_keptSpent) (x_o_bodies := x_o_bodies)   hc8) yy_Mo_ruleTells kf_Mo rfl mw_6_182 d_Mo_telling_38 rfl [] rfl rfl (Nat.le_of_ble_eq_true rfl) ⟨Nat.le_of_ble_eq_true rfl, Nat.le_of_ble_eq_true rfl⟩ rfl rfl (Nat.zero_le _) (Nat.zero_le _) 0 rfl [0, 2, 1] rfl (by decide +kernel) rfl (g_lay_sel _ _ _ _ [(0, true), (2, true), (1, true)] (by decide +kernel) rfl (by decide +kernel) rfl rfl) rfl ?_
      refine g_goto (tgt := 50) C d_Mo_telling_41 rfl ?_
      replace hf := g_o2 hf; obtain ⟨h1, hf⟩ := hf; subst h1
      replace hf := g_o2 hf; obtain ⟨h1, hf⟩ := hf; subst h1
      replace hf := Option.some.inj hf; subst hf
      exact g_iret C d_Mo_telling_50 () rfl
  · replace hf := g_ip h hf
    refine g_aload_n (pc' := 11) C 0 d_Mo_telling_10 rfl rfl ?_
    refine g_bipush (pc' := 13) (v := 61) C d_Mo_telling_11 rfl rfl ?_
    replace hf := g_bi hf; obtain ⟨⟨u9, u10⟩, hc11, hf⟩ := hf
    dsimp only at hf
    refine g_callV (pc' := 16) (st1 := []) (ws1 := [O_Mo a_o x_o_code x_o_lamps x_o_at x_o_night x_o_spent x_o_rest x_o_shy a_o_had a_o_told a_o_barred a_o_cost a_o_last a_o_often x_o_hasBegun x_o_doneMany x_o_undoneMany a_o_changeOf a_o_changeAt a_o_before a_o_behind a_o_tape x_o_taped x_o_here x_o_fault x_o_open x_o_laid a_o_act a_o_with a_o_lineMany a_o_testEnd a_o_lineEnd a_o_facts a_o_pile x_o_hasLaw a_o_way a_o_bestWay x_o_bestMany a_o_wasHad a_o_wasLast x_o_wasAt x_o_wasNight x_o_hasImage x_o_keptLamps x_o_keptAt x_o_keptNight x_o_keptSpent a_o_keptHad a_o_keptTold a_o_keptLast a_o_keptOften x_o_bodies a_o_kind u9 a_o_traced a_o_holds a_o_size a_o_elements a_o_shifted, A_I dA a_o_kind 50 x_o_kind, A_I dA a_o_traced 24 u10]) C (c_Mo_ran (l := l) (D := D) (dA := dA) (a_o := a_o) (a_o_had := a_o_had) (a_o_told := a_o_told) (a_o_barred := a_o_barred) (a_o_cost := a_o_cost) (a_o_last := a_o_last) (a_o_often := a_o_often) (a_o_changeOf := a_o_changeOf) (a_o_changeAt := a_o_changeAt) (a_o_before := a_o_before) (a_o_behind := a_o_behind) (a_o_tape := a_o_tape) (a_o_act := a_o_act) (a_o_with := a_o_with) (a_o_lineMany := a_o_lineMany) (a_o_testEnd := a_o_testEnd) (a_o_lineEnd := a_o_lineEnd) (a_o_facts := a_o_facts) (a_o_pile := a_o_pile) (a_o_way := a_o_way) (a_o_bestWay := a_o_bestWay) (a_o_wasHad := a_o_wasHad) (a_o_wasLast := a_o_wasLast) (a_o_keptHad := a_o_keptHad) (a_o_keptTold := a_o_keptTold) (a_o_keptLast := a_o_keptLast) (a_o_keptOften := a_o_keptOften) (a_o_kind := a_o_kind) (a_o_traced := a_o_traced) (a_o_holds := a_o_holds) (a_o_size := a_o_size) (a_o_elements := a_o_elements) (a_o_shifted := a_o_shifted) (x_o_code := x_o_code) (x_o_lamps := x_o_lamps) (x_o_at := x_o_at) (x_o_night := x_o_night) (x_o_spent := x_o_spent) (x_o_rest := x_o_rest) (x_o_shy := x_o_shy) (x_o_hasBegun := x_o_hasBegun) (x_o_doneMany := x_o_doneMany) (x_o_undoneMany := x_o_undoneMany) (x_o_taped := x_o_taped) (x_o_here := x_o_here) (x_o_fault := x_o_fault) (x_o_open := x_o_open) (x_o_laid := x_o_laid) (x_o_hasLaw := x_o_hasLaw) (x_o_bestMany := x_o_bestMany) (x_o_wasAt := x_o_wasAt) (x_o_wasNight := x_o_wasNight) (x_o_hasImage := x_o_hasImage) (x_o_keptLamps := x_o_keptLamps) (x_o_keptAt := x_o_keptAt) (x_o_keptNight := x_o_keptNight) (x_o_keptSpent := x_o_keptSpent) (x_o_bodies := x_o_bodies)   hc11) yy_Mo_ran kf_Mo rfl mw_6_146 d_Mo_telling_13 rfl [] rfl rfl (Nat.le_of_ble_eq_true rfl) ⟨Nat.le_of_ble_eq_true rfl, Nat.le_of_ble_eq_true rfl⟩ rfl rfl (Nat.zero_le _) (Nat.zero_le _) 0 rfl [0, 2] rfl (by decide +kernel) rfl (g_lay_sel _ _ _ _ [(0, true), (1, false), (1, true)] (by decide +kernel) rfl (by decide +kernel) rfl rfl) rfl ?_
    refine g_aload_n (pc' := 17) C 0 d_Mo_telling_16 rfl rfl ?_
    refine g_iload_n (pc' := 18) C 1 d_Mo_telling_17 rfl rfl ?_
    refine g_iload_n (pc' := 19) C 2 d_Mo_telling_18 rfl rfl ?_
    replace hf := g_bi hf; obtain ⟨⟨r12, u13, u14⟩, hc15, hf⟩ := hf
    dsimp only at hf
    refine g_callV (pc' := 22) (st1 := [.int r12]) (ws1 := [O_Mo a_o x_o_code x_o_lamps x_o_at x_o_night x_o_spent x_o_rest x_o_shy a_o_had a_o_told a_o_barred a_o_cost a_o_last a_o_often x_o_hasBegun x_o_doneMany x_o_undoneMany a_o_changeOf a_o_changeAt a_o_before a_o_behind a_o_tape x_o_taped x_o_here x_o_fault x_o_open x_o_laid a_o_act a_o_with a_o_lineMany a_o_testEnd a_o_lineEnd a_o_facts a_o_pile x_o_hasLaw a_o_way a_o_bestWay x_o_bestMany a_o_wasHad a_o_wasLast x_o_wasAt x_o_wasNight x_o_hasImage x_o_keptLamps x_o_keptAt x_o_keptNight x_o_keptSpent a_o_keptHad a_o_keptTold a_o_keptLast a_o_keptOften x_o_bodies a_o_kind u13 a_o_traced a_o_holds a_o_size a_o_elements a_o_shifted, A_I dA a_o_kind 50 x_o_kind, A_I dA a_o_traced 24 u14]) C (c_Mo_ruleTells (l := l) (D := D) (dA := dA) (a_o := a_o) (a_o_had := a_o_had) (a_o_told := a_o_told) (a_o_barred := a_o_barred) (a_o_cost := a_o_cost) (a_o_last := a_o_last) (a_o_often := a_o_often) (a_o_changeOf := a_o_changeOf) (a_o_changeAt := a_o_changeAt) (a_o_before := a_o_before) (a_o_behind := a_o_behind) (a_o_tape := a_o_tape) (a_o_act := a_o_act) (a_o_with := a_o_with) (a_o_lineMany := a_o_lineMany) (a_o_testEnd := a_o_testEnd) (a_o_lineEnd := a_o_lineEnd) (a_o_facts := a_o_facts) (a_o_pile := a_o_pile) (a_o_way := a_o_way) (a_o_bestWay := a_o_bestWay) (a_o_wasHad := a_o_wasHad) (a_o_wasLast := a_o_wasLast) (a_o_keptHad := a_o_keptHad) (a_o_keptTold := a_o_keptTold) (a_o_keptLast := a_o_keptLast) (a_o_keptOften := a_o_keptOften) (a_o_kind := a_o_kind) (a_o_traced := a_o_traced) (a_o_holds := a_o_holds) (a_o_size := a_o_size) (a_o_elements := a_o_elements) (a_o_shifted := a_o_shifted) (x_o_code := x_o_code) (x_o_lamps := x_o_lamps) (x_o_at := x_o_at) (x_o_night := x_o_night) (x_o_spent := x_o_spent) (x_o_rest := x_o_rest) (x_o_shy := x_o_shy) (x_o_hasBegun := x_o_hasBegun) (x_o_doneMany := x_o_doneMany) (x_o_undoneMany := x_o_undoneMany) (x_o_taped := x_o_taped) (x_o_here := x_o_here) (x_o_fault := x_o_fault) (x_o_open := x_o_open) (x_o_laid := x_o_laid) (x_o_hasLaw := x_o_hasLaw) (x_o_bestMany := x_o_bestMany) (x_o_wasAt := x_o_wasAt) (x_o_wasNight := x_o_wasNight) (x_o_hasImage := x_o_hasImage) (x_o_keptLamps := x_o_keptLamps) (x_o_keptAt := x_o_keptAt) (x_o_keptNight := x_o_keptNight) (x_o_keptSpent := x_o_keptSpent) (x_o_bodies := x_o_bodies)   hc15) yy_Mo_ruleTells kf_Mo rfl mw_6_182 d_Mo_telling_19 rfl [] rfl rfl (Nat.le_of_ble_eq_true rfl) ⟨Nat.le_of_ble_eq_true rfl, Nat.le_of_ble_eq_true rfl⟩ rfl rfl (Nat.zero_le _) (Nat.zero_le _) 0 rfl [0, 2, 1] rfl (by decide +kernel) rfl (g_lay_sel _ _ _ _ [(0, true), (2, true), (1, true)] (by decide +kernel) rfl (by decide +kernel) rfl rfl) rfl ?_
    refine g_iconst (pc' := 23) (v := 1) C d_Mo_telling_22 rfl rfl ?_
    refine g_iadd (pc' := 24) C d_Mo_telling_23 rfl ?_
    replace hf := g_o2 hf; obtain ⟨h1, hf⟩ := hf; subst h1
    replace hf := g_o2 hf; obtain ⟨h1, hf⟩ := hf; subst h1
    replace hf := Option.some.inj hf; subst hf
    exact g_iret C d_Mo_telling_24 () rfl
def y_Mo_act : MethodName := ⟨"OneLampModel", "act", "(III)I"⟩
theorem yy_Mo_act : YV y_Mo_act prog_13_method_91_code 4 (some .int) 3 := ⟨mw_6_134, mw_1_12, mw_6_132, mw_6_133, by decide +kernel, by decide +kernel, by decide +kernel⟩
theorem d_Mo_act_0 : decode prog_13_method_91_code 0 = .ok (.aload_n 0, 1) := by decide +kernel
theorem d_Mo_act_1 : decode prog_13_method_91_code 1 = .ok (.iconst 0, 1) := by decide +kernel
theorem d_Mo_act_2 : decode prog_13_method_91_code 2 = .ok (.putfield 351, 3) := by decide +kernel
theorem d_Mo_act_5 : decode prog_13_method_91_code 5 = .ok (.aload_n 0, 1) := by decide +kernel
theorem d_Mo_act_6 : decode prog_13_method_91_code 6 = .ok (.iload_n 1, 1) := by decide +kernel
theorem d_Mo_act_7 : decode prog_13_method_91_code 7 = .ok (.invokevirtual 391, 3) := by decide +kernel
theorem d_Mo_act_10 : decode prog_13_method_91_code 10 = .ok (.ifCond .eq 12, 3) := by decide +kernel
theorem d_Mo_act_13 : decode prog_13_method_91_code 13 = .ok (.iload_n 2, 1) := by decide +kernel
theorem d_Mo_act_14 : decode prog_13_method_91_code 14 = .ok (.iconst 0, 1) := by decide +kernel
theorem d_Mo_act_15 : decode prog_13_method_91_code 15 = .ok (.iconst 3, 1) := by decide +kernel
theorem d_Mo_act_16 : decode prog_13_method_91_code 16 = .ok (.invokestatic 121, 3) := by decide +kernel
theorem d_Mo_act_19 : decode prog_13_method_91_code 19 = .ok (.ifCond .ne 5, 3) := by decide +kernel
theorem d_Mo_act_22 : decode prog_13_method_91_code 22 = .ok (.iconst 0, 1) := by decide +kernel
theorem d_Mo_act_23 : decode prog_13_method_91_code 23 = .ok (.ireturn, 1) := by decide +kernel
theorem d_Mo_act_24 : decode prog_13_method_91_code 24 = .ok (.iload_n 2, 1) := by decide +kernel
theorem d_Mo_act_25 : decode prog_13_method_91_code 25 = .ok (.ifCond .ne 12, 3) := by decide +kernel
theorem d_Mo_act_28 : decode prog_13_method_91_code 28 = .ok (.aload_n 0, 1) := by decide +kernel
theorem d_Mo_act_29 : decode prog_13_method_91_code 29 = .ok (.iload_n 1, 1) := by decide +kernel
theorem d_Mo_act_30 : decode prog_13_method_91_code 30 = .ok (.iload_n 3, 1) := by decide +kernel
theorem d_Mo_act_31 : decode prog_13_method_91_code 31 = .ok (.invokevirtual 367, 3) := by decide +kernel
theorem d_Mo_act_34 : decode prog_13_method_91_code 34 = .ok (.goto 37, 3) := by decide +kernel
theorem d_Mo_act_37 : decode prog_13_method_91_code 37 = .ok (.iload_n 2, 1) := by decide +kernel
theorem d_Mo_act_38 : decode prog_13_method_91_code 38 = .ok (.iconst 1, 1) := by decide +kernel
theorem d_Mo_act_39 : decode prog_13_method_91_code 39 = .ok (.if_icmp .ne 12, 3) := by decide +kernel
theorem d_Mo_act_42 : decode prog_13_method_91_code 42 = .ok (.aload_n 0, 1) := by decide +kernel
theorem d_Mo_act_43 : decode prog_13_method_91_code 43 = .ok (.iload_n 1, 1) := by decide +kernel
theorem d_Mo_act_44 : decode prog_13_method_91_code 44 = .ok (.iload_n 3, 1) := by decide +kernel
theorem d_Mo_act_45 : decode prog_13_method_91_code 45 = .ok (.invokevirtual 382, 3) := by decide +kernel
theorem d_Mo_act_48 : decode prog_13_method_91_code 48 = .ok (.goto 23, 3) := by decide +kernel
theorem d_Mo_act_51 : decode prog_13_method_91_code 51 = .ok (.iload_n 2, 1) := by decide +kernel
theorem d_Mo_act_52 : decode prog_13_method_91_code 52 = .ok (.iconst 2, 1) := by decide +kernel
theorem d_Mo_act_53 : decode prog_13_method_91_code 53 = .ok (.if_icmp .ne 12, 3) := by decide +kernel
theorem d_Mo_act_56 : decode prog_13_method_91_code 56 = .ok (.aload_n 0, 1) := by decide +kernel
theorem d_Mo_act_57 : decode prog_13_method_91_code 57 = .ok (.iload_n 1, 1) := by decide +kernel
theorem d_Mo_act_58 : decode prog_13_method_91_code 58 = .ok (.iload_n 3, 1) := by decide +kernel
theorem d_Mo_act_59 : decode prog_13_method_91_code 59 = .ok (.invokevirtual 376, 3) := by decide +kernel
theorem d_Mo_act_62 : decode prog_13_method_91_code 62 = .ok (.goto 9, 3) := by decide +kernel
theorem d_Mo_act_65 : decode prog_13_method_91_code 65 = .ok (.aload_n 0, 1) := by decide +kernel
theorem d_Mo_act_66 : decode prog_13_method_91_code 66 = .ok (.iload_n 1, 1) := by decide +kernel
theorem d_Mo_act_67 : decode prog_13_method_91_code 67 = .ok (.iload_n 3, 1) := by decide +kernel
theorem d_Mo_act_68 : decode prog_13_method_91_code 68 = .ok (.invokevirtual 394, 3) := by decide +kernel
theorem d_Mo_act_71 : decode prog_13_method_91_code 71 = .ok (.ireturn, 1) := by decide +kernel
def f_Mo_act  (p1 : Int32) (p2 : Int32) (p3 : Int32) (x_o_bodies : Int32) (x_o_traces : Int32) (x_o_kind : Nat → Int32) (x_o_traced : Nat → Int32) : Option (Int32 × Int32 × (Nat → Int32)) :=
  (f_Mo_isBody  p1 x_o_bodies).bind fun r1 =>
  if r1 = true then
    ((f_Mo_in  p2 (0 : Int32) (3 : Int32)).bind fun r3 =>
    if r3 = true then
      (if p2 = 0 then
        ((f_Mo_lighting  p1 p3 (0 : Int32) x_o_kind x_o_traced).bind fun (r17, u18, u19) =>
        some (r17, u18, u19))
      else
        (if p2 = (1 : Int32) then
          ((f_Mo_showing  p1 p3 (0 : Int32) x_o_kind x_o_traced).bind fun (r13, u14, u15) =>
          some (r13, u14, u15))
        else
          (if p2 = (2 : Int32) then
            ((f_Mo_resting  p1 p3 (0 : Int32) x_o_kind x_o_traced).bind fun (r9, u10, u11) =>
            some (r9, u10, u11))
          else
            ((f_Mo_telling  p1 p3 (0 : Int32) x_o_kind x_o_traced).bind fun (r5, u6, u7) =>
            some (r5, u6, u7)))))
    else
      (some ((0 : Int32), (0 : Int32), x_o_traced)))
  else
    (some ((0 : Int32), (0 : Int32), x_o_traced))
set_option maxRecDepth 20000 in
theorem c_Mo_act {l : Launch} {D : va_G} {dA : Nat → ClassId} {a_o a_o_had a_o_told a_o_barred a_o_cost a_o_last a_o_often a_o_changeOf a_o_changeAt a_o_before a_o_behind a_o_tape a_o_act a_o_with a_o_lineMany a_o_testEnd a_o_lineEnd a_o_facts a_o_pile a_o_way a_o_bestWay a_o_wasHad a_o_wasLast a_o_keptHad a_o_keptTold a_o_keptLast a_o_keptOften a_o_kind a_o_traced a_o_holds a_o_size a_o_elements a_o_shifted : Nat} {x_o_code : Int32} {x_o_lamps : Int32} {x_o_at : Int32} {x_o_night : Int32} {x_o_spent : Int32} {x_o_rest : Int32} {x_o_shy : Int32} {x_o_hasBegun : Bool} {x_o_doneMany : Int32} {x_o_undoneMany : Int32} {x_o_taped : Int32} {x_o_here : Int32} {x_o_fault : Int32} {x_o_open : Int32} {x_o_laid : Int32} {x_o_hasLaw : Bool} {x_o_bestMany : Int32} {x_o_wasAt : Int32} {x_o_wasNight : Int32} {x_o_hasImage : Bool} {x_o_keptLamps : Int32} {x_o_keptAt : Int32} {x_o_keptNight : Int32} {x_o_keptSpent : Int32} {p1 : Int32} {p2 : Int32} {p3 : Int32} {x_o_bodies : Int32} {x_o_traces : Int32} {x_o_kind : Nat → Int32} {x_o_traced : Nat → Int32} {r0 : Int32} {o_x_o_traces : Int32} {o_x_o_traced : Nat → Int32}   (hf : f_Mo_act  p1 p2 p3 x_o_bodies x_o_traces x_o_kind x_o_traced = some (r0, o_x_o_traces, o_x_o_traced)) : CT l y_Mo_act prog_13_method_91_code 4 (some .int) { frames := 10, cells := 0, slots := 0, locals := 221 } D dA [.ref a_o, .int p1, .int p2, .int p3] [O_Mo a_o x_o_code x_o_lamps x_o_at x_o_night x_o_spent x_o_rest x_o_shy a_o_had a_o_told a_o_barred a_o_cost a_o_last a_o_often x_o_hasBegun x_o_doneMany x_o_undoneMany a_o_changeOf a_o_changeAt a_o_before a_o_behind a_o_tape x_o_taped x_o_here x_o_fault x_o_open x_o_laid a_o_act a_o_with a_o_lineMany a_o_testEnd a_o_lineEnd a_o_facts a_o_pile x_o_hasLaw a_o_way a_o_bestWay x_o_bestMany a_o_wasHad a_o_wasLast x_o_wasAt x_o_wasNight x_o_hasImage x_o_keptLamps x_o_keptAt x_o_keptNight x_o_keptSpent a_o_keptHad a_o_keptTold a_o_keptLast a_o_keptOften x_o_bodies a_o_kind x_o_traces a_o_traced a_o_holds a_o_size a_o_elements a_o_shifted, A_I dA a_o_kind 50 x_o_kind, A_I dA a_o_traced 24 x_o_traced] (some (.int r0)) (fun _ : Unit => [O_Mo a_o x_o_code x_o_lamps x_o_at x_o_night x_o_spent x_o_rest x_o_shy a_o_had a_o_told a_o_barred a_o_cost a_o_last a_o_often x_o_hasBegun x_o_doneMany x_o_undoneMany a_o_changeOf a_o_changeAt a_o_before a_o_behind a_o_tape x_o_taped x_o_here x_o_fault x_o_open x_o_laid a_o_act a_o_with a_o_lineMany a_o_testEnd a_o_lineEnd a_o_facts a_o_pile x_o_hasLaw a_o_way a_o_bestWay x_o_bestMany a_o_wasHad a_o_wasLast x_o_wasAt x_o_wasNight x_o_hasImage x_o_keptLamps x_o_keptAt x_o_keptNight x_o_keptSpent a_o_keptHad a_o_keptTold a_o_keptLast a_o_keptOften x_o_bodies a_o_kind o_x_o_traces a_o_traced a_o_holds a_o_size a_o_elements a_o_shifted, A_I dA a_o_kind 50 x_o_kind, A_I dA a_o_traced 24 o_x_o_traced]) := by
  refine ct_intro "OneLampModel" rfl (by decide +kernel) (Nat.le_of_ble_eq_true rfl) [(0, .ref a_o), (1, .int p1), (2, .int p2), (3, .int p3)] rfl (fun _ C => ?_)
  unfold f_Mo_act at hf
  refine g_aload_n (pc' := 1) C 0 d_Mo_act_0 rfl rfl ?_
  refine g_iconst (pc' := 2) (v := 0) C d_Mo_act_1 rfl rfl ?_
  refine g_put (pc' := 5) (ws' := [O_Mo a_o x_o_code x_o_lamps x_o_at x_o_night x_o_spent x_o_rest x_o_shy a_o_had a_o_told a_o_barred a_o_cost a_o_last a_o_often x_o_hasBegun x_o_doneMany x_o_undoneMany a_o_changeOf a_o_changeAt a_o_before a_o_behind a_o_tape x_o_taped x_o_here x_o_fault x_o_open x_o_laid a_o_act a_o_with a_o_lineMany a_o_testEnd a_o_lineEnd a_o_facts a_o_pile x_o_hasLaw a_o_way a_o_bestWay x_o_bestMany a_o_wasHad a_o_wasLast x_o_wasAt x_o_wasNight x_o_hasImage x_o_keptLamps x_o_keptAt x_o_keptNight x_o_keptSpent a_o_keptHad a_o_keptTold a_o_keptLast a_o_keptOften x_o_bodies a_o_kind (0 : Int32) a_o_traced a_o_holds a_o_size a_o_elements a_o_shifted, A_I dA a_o_kind 50 x_o_kind, A_I dA a_o_traced 24 x_o_traced]) C kf_Mo 52 mw_4_190 d_Mo_act_2 rfl 0 rfl (by decide) rfl rfl rfl (Nat.le_of_ble_eq_true rfl) rfl ?_
  refine g_aload_n (pc' := 6) C 0 d_Mo_act_5 rfl rfl ?_
  refine g_iload_n (pc' := 7) C 1 d_Mo_act_6 rfl rfl ?_
  replace hf := g_bi hf; obtain ⟨r1, hc2, hf⟩ := hf
  refine g_callV (pc' := 10) (st1 := [.int (b2i r1)]) (ws1 := [O_Mo a_o x_o_code x_o_lamps x_o_at x_o_night x_o_spent x_o_rest x_o_shy a_o_had a_o_told a_o_barred a_o_cost a_o_last a_o_often x_o_hasBegun x_o_doneMany x_o_undoneMany a_o_changeOf a_o_changeAt a_o_before a_o_behind a_o_tape x_o_taped x_o_here x_o_fault x_o_open x_o_laid a_o_act a_o_with a_o_lineMany a_o_testEnd a_o_lineEnd a_o_facts a_o_pile x_o_hasLaw a_o_way a_o_bestWay x_o_bestMany a_o_wasHad a_o_wasLast x_o_wasAt x_o_wasNight x_o_hasImage x_o_keptLamps x_o_keptAt x_o_keptNight x_o_keptSpent a_o_keptHad a_o_keptTold a_o_keptLast a_o_keptOften x_o_bodies a_o_kind (0 : Int32) a_o_traced a_o_holds a_o_size a_o_elements a_o_shifted, A_I dA a_o_kind 50 x_o_kind, A_I dA a_o_traced 24 x_o_traced]) C (c_Mo_isBody (l := l) (D := D) (dA := dA) (a_o := a_o) (a_o_had := a_o_had) (a_o_told := a_o_told) (a_o_barred := a_o_barred) (a_o_cost := a_o_cost) (a_o_last := a_o_last) (a_o_often := a_o_often) (a_o_changeOf := a_o_changeOf) (a_o_changeAt := a_o_changeAt) (a_o_before := a_o_before) (a_o_behind := a_o_behind) (a_o_tape := a_o_tape) (a_o_act := a_o_act) (a_o_with := a_o_with) (a_o_lineMany := a_o_lineMany) (a_o_testEnd := a_o_testEnd) (a_o_lineEnd := a_o_lineEnd) (a_o_facts := a_o_facts) (a_o_pile := a_o_pile) (a_o_way := a_o_way) (a_o_bestWay := a_o_bestWay) (a_o_wasHad := a_o_wasHad) (a_o_wasLast := a_o_wasLast) (a_o_keptHad := a_o_keptHad) (a_o_keptTold := a_o_keptTold) (a_o_keptLast := a_o_keptLast) (a_o_keptOften := a_o_keptOften) (a_o_kind := a_o_kind) (a_o_traced := a_o_traced) (a_o_holds := a_o_holds) (a_o_size := a_o_size) (a_o_elements := a_o_elements) (a_o_shifted := a_o_shifted) (x_o_code := x_o_code) (x_o_lamps := x_o_lamps) (x_o_at := x_o_at) (x_o_night := x_o_night) (x_o_spent := x_o_spent) (x_o_rest := x_o_rest) (x_o_shy := x_o_shy) (x_o_hasBegun := x_o_hasBegun) (x_o_doneMany := x_o_doneMany) (x_o_undoneMany := x_o_undoneMany) (x_o_taped := x_o_taped) (x_o_here := x_o_here) (x_o_fault := x_o_fault) (x_o_open := x_o_open) (x_o_laid := x_o_laid) (x_o_hasLaw := x_o_hasLaw) (x_o_bestMany := x_o_bestMany) (x_o_wasAt := x_o_wasAt) (x_o_wasNight := x_o_wasNight) (x_o_hasImage := x_o_hasImage) (x_o_keptLamps := x_o_keptLamps) (x_o_keptAt := x_o_keptAt) (x_o_keptNight := x_o_keptNight) (x_o_keptSpent := x_o_keptSpent) (x_o_traces := (0 : Int32))   hc2) yy_Mo_isBody kf_Mo rfl mw_6_135 d_Mo_act_7 rfl [] rfl rfl (Nat.le_of_ble_eq_true rfl) ⟨Nat.le_of_ble_eq_true rfl, Nat.le_of_ble_eq_true rfl⟩ rfl rfl (Nat.zero_le _) (Nat.zero_le _) 0 rfl [0] rfl (by decide +kernel) rfl (g_lay_sel _ _ _ _ [(0, true), (1, false), (2, false)] (by decide +kernel) rfl (by decide +kernel) rfl rfl) rfl ?_
  refine g_if_eqb (pc' := 13) (tgt := 22) C d_Mo_act_10 rfl rfl (fun h => ?_) (fun h => ?_)
  · replace hf := g_bf h hf
    refine g_iconst (pc' := 23) (v := 0) C d_Mo_act_22 rfl rfl ?_
    replace hf := g_o2 hf; obtain ⟨h1, hf⟩ := hf; subst h1
    replace hf := g_o2 hf; obtain ⟨h1, hf⟩ := hf; subst h1
    replace hf := Option.some.inj hf; subst hf
    exact g_iret C d_Mo_act_23 () rfl
  · replace hf := g_bt h hf
    refine g_iload_n (pc' := 14) C 2 d_Mo_act_13 rfl rfl ?_
    refine g_iconst (pc' := 15) (v := 0) C d_Mo_act_14 rfl rfl ?_
    refine g_iconst (pc' := 16) (v := 3) C d_Mo_act_15 rfl rfl ?_
    replace hf := g_bi hf; obtain ⟨r3, hc4, hf⟩ := hf
    refine g_callS (pc' := 19) (st1 := [.int (b2i r3)]) (ws1 := [O_Mo a_o x_o_code x_o_lamps x_o_at x_o_night x_o_spent x_o_rest x_o_shy a_o_had a_o_told a_o_barred a_o_cost a_o_last a_o_often x_o_hasBegun x_o_doneMany x_o_undoneMany a_o_changeOf a_o_changeAt a_o_before a_o_behind a_o_tape x_o_taped x_o_here x_o_fault x_o_open x_o_laid a_o_act a_o_with a_o_lineMany a_o_testEnd a_o_lineEnd a_o_facts a_o_pile x_o_hasLaw a_o_way a_o_bestWay x_o_bestMany a_o_wasHad a_o_wasLast x_o_wasAt x_o_wasNight x_o_hasImage x_o_keptLamps x_o_keptAt x_o_keptNight x_o_keptSpent a_o_keptHad a_o_keptTold a_o_keptLast a_o_keptOften x_o_bodies a_o_kind (0 : Int32) a_o_traced a_o_holds a_o_size a_o_elements a_o_shifted, A_I dA a_o_kind 50 x_o_kind, A_I dA a_o_traced 24 x_o_traced]) C (c_Mo_in (l := l) (D := D) (dA := dA)    hc4) yy_Mo_in mw_5_80 d_Mo_act_16 rfl [] rfl rfl (Nat.le_of_ble_eq_true rfl) ⟨Nat.le_of_ble_eq_true rfl, Nat.le_of_ble_eq_true rfl⟩ rfl rfl (Nat.zero_le _) (Nat.zero_le _) [] rfl (by decide +kernel) rfl (g_lay_sel _ _ _ _ [(0, false), (1, false), (2, false)] (by decide +kernel) rfl (by decide +kernel) rfl rfl) rfl ?_
    refine g_if_neb (pc' := 22) (tgt := 24) C d_Mo_act_19 rfl rfl (fun h => ?_) (fun h => ?_)
    · replace hf := g_bt h hf
      refine g_iload_n (pc' := 25) C 2 d_Mo_act_24 rfl rfl ?_
      refine g_if_ne (pc' := 28) (tgt := 37) C d_Mo_act_25 rfl rfl (fun h => ?_) (fun h => ?_)
      · replace hf := g_in h hf
        refine g_iload_n (pc' := 38) C 2 d_Mo_act_37 rfl rfl ?_
        refine g_iconst (pc' := 39) (v := 1) C d_Mo_act_38 rfl rfl ?_
        refine g_icmp_ne (pc' := 42) (tgt := 51) C d_Mo_act_39 rfl rfl (fun h => ?_) (fun h => ?_)
        · replace hf := g_in h hf
          refine g_iload_n (pc' := 52) C 2 d_Mo_act_51 rfl rfl ?_
          refine g_iconst (pc' := 53) (v := 2) C d_Mo_act_52 rfl rfl ?_
          refine g_icmp_ne (pc' := 56) (tgt := 65) C d_Mo_act_53 rfl rfl (fun h => ?_) (fun h => ?_)
          · replace hf := g_in h hf
            refine g_aload_n (pc' := 66) C 0 d_Mo_act_65 rfl rfl ?_
            refine g_iload_n (pc' := 67) C 1 d_Mo_act_66 rfl rfl ?_
            refine g_iload_n (pc' := 68) C 3 d_Mo_act_67 rfl rfl ?_
            replace hf := g_bi hf; obtain ⟨⟨r5, u6, u7⟩, hc8, hf⟩ := hf
            dsimp only at hf
            refine g_callV (pc' := 71) (st1 := [.int r5]) (ws1 := [O_Mo a_o x_o_code x_o_lamps x_o_at x_o_night x_o_spent x_o_rest x_o_shy a_o_had a_o_told a_o_barred a_o_cost a_o_last a_o_often x_o_hasBegun x_o_doneMany x_o_undoneMany a_o_changeOf a_o_changeAt a_o_before a_o_behind a_o_tape x_o_taped x_o_here x_o_fault x_o_open x_o_laid a_o_act a_o_with a_o_lineMany a_o_testEnd a_o_lineEnd a_o_facts a_o_pile x_o_hasLaw a_o_way a_o_bestWay x_o_bestMany a_o_wasHad a_o_wasLast x_o_wasAt x_o_wasNight x_o_hasImage x_o_keptLamps x_o_keptAt x_o_keptNight x_o_keptSpent a_o_keptHad a_o_keptTold a_o_keptLast a_o_keptOften x_o_bodies a_o_kind u6 a_o_traced a_o_holds a_o_size a_o_elements a_o_shifted, A_I dA a_o_kind 50 x_o_kind, A_I dA a_o_traced 24 u7]) C (c_Mo_telling (l := l) (D := D) (dA := dA) (a_o := a_o) (a_o_had := a_o_had) (a_o_told := a_o_told) (a_o_barred := a_o_barred) (a_o_cost := a_o_cost) (a_o_last := a_o_last) (a_o_often := a_o_often) (a_o_changeOf := a_o_changeOf) (a_o_changeAt := a_o_changeAt) (a_o_before := a_o_before) (a_o_behind := a_o_behind) (a_o_tape := a_o_tape) (a_o_act := a_o_act) (a_o_with := a_o_with) (a_o_lineMany := a_o_lineMany) (a_o_testEnd := a_o_testEnd) (a_o_lineEnd := a_o_lineEnd) (a_o_facts := a_o_facts) (a_o_pile := a_o_pile) (a_o_way := a_o_way) (a_o_bestWay := a_o_bestWay) (a_o_wasHad := a_o_wasHad) (a_o_wasLast := a_o_wasLast) (a_o_keptHad := a_o_keptHad) (a_o_keptTold := a_o_keptTold) (a_o_keptLast := a_o_keptLast) (a_o_keptOften := a_o_keptOften) (a_o_kind := a_o_kind) (a_o_traced := a_o_traced) (a_o_holds := a_o_holds) (a_o_size := a_o_size) (a_o_elements := a_o_elements) (a_o_shifted := a_o_shifted) (x_o_code := x_o_code) (x_o_lamps := x_o_lamps) (x_o_at := x_o_at) (x_o_night := x_o_night) (x_o_spent := x_o_spent) (x_o_rest := x_o_rest) (x_o_shy := x_o_shy) (x_o_hasBegun := x_o_hasBegun) (x_o_doneMany := x_o_doneMany) (x_o_undoneMany := x_o_undoneMany) (x_o_taped := x_o_taped) (x_o_here := x_o_here) (x_o_fault := x_o_fault) (x_o_open := x_o_open) (x_o_laid := x_o_laid) (x_o_hasLaw := x_o_hasLaw) (x_o_bestMany := x_o_bestMany) (x_o_wasAt := x_o_wasAt) (x_o_wasNight := x_o_wasNight) (x_o_hasImage := x_o_hasImage) (x_o_keptLamps := x_o_keptLamps) (x_o_keptAt := x_o_keptAt) (x_o_keptNight := x_o_keptNight) (x_o_keptSpent := x_o_keptSpent) (x_o_bodies := x_o_bodies)   hc8) yy_Mo_telling kf_Mo rfl mw_6_178 d_Mo_act_68 rfl [] rfl rfl (Nat.le_of_ble_eq_true rfl) ⟨Nat.le_of_ble_eq_true rfl, Nat.le_of_ble_eq_true rfl⟩ rfl rfl (Nat.zero_le _) (Nat.zero_le _) 0 rfl [0, 1, 2] rfl (by decide +kernel) rfl (g_lay_sel _ _ _ _ [(0, true), (1, true), (2, true)] (by decide +kernel) rfl (by decide +kernel) rfl rfl) rfl ?_
            replace hf := g_o2 hf; obtain ⟨h1, hf⟩ := hf; subst h1
            replace hf := g_o2 hf; obtain ⟨h1, hf⟩ := hf; subst h1
            replace hf := Option.some.inj hf; subst hf
            exact g_iret C d_Mo_act_71 () rfl
          · replace hf := g_ip h hf
            refine g_aload_n (pc' := 57) C 0 d_Mo_act_56 rfl rfl ?_
            refine g_iload_n (pc' := 58) C 1 d_Mo_act_57 rfl rfl ?_
            refine g_iload_n (pc' := 59) C 3 d_Mo_act_58 rfl rfl ?_
            replace hf := g_bi hf; obtain ⟨⟨r9, u10, u11⟩, hc12, hf⟩ := hf
            dsimp only at hf
            refine g_callV (pc' := 62) (st1 := [.int r9]) (ws1 := [O_Mo a_o x_o_code x_o_lamps x_o_at x_o_night x_o_spent x_o_rest x_o_shy a_o_had a_o_told a_o_barred a_o_cost a_o_last a_o_often x_o_hasBegun x_o_doneMany x_o_undoneMany a_o_changeOf a_o_changeAt a_o_before a_o_behind a_o_tape x_o_taped x_o_here x_o_fault x_o_open x_o_laid a_o_act a_o_with a_o_lineMany a_o_testEnd a_o_lineEnd a_o_facts a_o_pile x_o_hasLaw a_o_way a_o_bestWay x_o_bestMany a_o_wasHad a_o_wasLast x_o_wasAt x_o_wasNight x_o_hasImage x_o_keptLamps x_o_keptAt x_o_keptNight x_o_keptSpent a_o_keptHad a_o_keptTold a_o_keptLast a_o_keptOften x_o_bodies a_o_kind u10 a_o_traced a_o_holds a_o_size a_o_elements a_o_shifted, A_I dA a_o_kind 50 x_o_kind, A_I dA a_o_traced 24 u11]) C (c_Mo_resting (l := l) (D := D) (dA := dA) (a_o := a_o) (a_o_had := a_o_had) (a_o_told := a_o_told) (a_o_barred := a_o_barred) (a_o_cost := a_o_cost) (a_o_last := a_o_last) (a_o_often := a_o_often) (a_o_changeOf := a_o_changeOf) (a_o_changeAt := a_o_changeAt) (a_o_before := a_o_before) (a_o_behind := a_o_behind) (a_o_tape := a_o_tape) (a_o_act := a_o_act) (a_o_with := a_o_with) (a_o_lineMany := a_o_lineMany) (a_o_testEnd := a_o_testEnd) (a_o_lineEnd := a_o_lineEnd) (a_o_facts := a_o_facts) (a_o_pile := a_o_pile) (a_o_way := a_o_way) (a_o_bestWay := a_o_bestWay) (a_o_wasHad := a_o_wasHad) (a_o_wasLast := a_o_wasLast) (a_o_keptHad := a_o_keptHad) (a_o_keptTold := a_o_keptTold) (a_o_keptLast := a_o_keptLast) (a_o_keptOften := a_o_keptOften) (a_o_kind := a_o_kind) (a_o_traced := a_o_traced) (a_o_holds := a_o_holds) (a_o_size := a_o_size) (a_o_elements := a_o_elements) (a_o_shifted := a_o_shifted) (x_o_code := x_o_code) (x_o_lamps := x_o_lamps) (x_o_at := x_o_at) (x_o_night := x_o_night) (x_o_spent := x_o_spent) (x_o_rest := x_o_rest) (x_o_shy := x_o_shy) (x_o_hasBegun := x_o_hasBegun) (x_o_doneMany := x_o_doneMany) (x_o_undoneMany := x_o_undoneMany) (x_o_taped := x_o_taped) (x_o_here := x_o_here) (x_o_fault := x_o_fault) (x_o_open := x_o_open) (x_o_laid := x_o_laid) (x_o_hasLaw := x_o_hasLaw) (x_o_bestMany := x_o_bestMany) (x_o_wasAt := x_o_wasAt) (x_o_wasNight := x_o_wasNight) (x_o_hasImage := x_o_hasImage) (x_o_keptLamps := x_o_keptLamps) (x_o_keptAt := x_o_keptAt) (x_o_keptNight := x_o_keptNight) (x_o_keptSpent := x_o_keptSpent) (x_o_bodies := x_o_bodies)   hc12) yy_Mo_resting kf_Mo rfl mw_6_170 d_Mo_act_59 rfl [] rfl rfl (Nat.le_of_ble_eq_true rfl) ⟨Nat.le_of_ble_eq_true rfl, Nat.le_of_ble_eq_true rfl⟩ rfl rfl (Nat.zero_le _) (Nat.zero_le _) 0 rfl [0, 1, 2] rfl (by decide +kernel) rfl (g_lay_sel _ _ _ _ [(0, true), (1, true), (2, true)] (by decide +kernel) rfl (by decide +kernel) rfl rfl) rfl ?_
            refine g_goto (tgt := 71) C d_Mo_act_62 rfl ?_
            replace hf := g_o2 hf; obtain ⟨h1, hf⟩ := hf; subst h1
            replace hf := g_o2 hf; obtain ⟨h1, hf⟩ := hf; subst h1
            replace hf := Option.some.inj hf; subst hf
            exact g_iret C d_Mo_act_71 () rfl
        · replace hf := g_ip h hf
          refine g_aload_n (pc' := 43) C 0 d_Mo_act_42 rfl rfl ?_
          refine g_iload_n (pc' := 44) C 1 d_Mo_act_43 rfl rfl ?_
          refine g_iload_n (pc' := 45) C 3 d_Mo_act_44 rfl rfl ?_
          replace hf := g_bi hf; obtain ⟨⟨r13, u14, u15⟩, hc16, hf⟩ := hf
          dsimp only at hf
          refine g_callV (pc' := 48) (st1 := [.int r13]) (ws1 := [O_Mo a_o x_o_code x_o_lamps x_o_at x_o_night x_o_spent x_o_rest x_o_shy a_o_had a_o_told a_o_barred a_o_cost a_o_last a_o_often x_o_hasBegun x_o_doneMany x_o_undoneMany a_o_changeOf a_o_changeAt a_o_before a_o_behind a_o_tape x_o_taped x_o_here x_o_fault x_o_open x_o_laid a_o_act a_o_with a_o_lineMany a_o_testEnd a_o_lineEnd a_o_facts a_o_pile x_o_hasLaw a_o_way a_o_bestWay x_o_bestMany a_o_wasHad a_o_wasLast x_o_wasAt x_o_wasNight x_o_hasImage x_o_keptLamps x_o_keptAt x_o_keptNight x_o_keptSpent a_o_keptHad a_o_keptTold a_o_keptLast a_o_keptOften x_o_bodies a_o_kind u14 a_o_traced a_o_holds a_o_size a_o_elements a_o_shifted, A_I dA a_o_kind 50 x_o_kind, A_I dA a_o_traced 24 u15]) C (c_Mo_showing (l := l) (D := D) (dA := dA) (a_o := a_o) (a_o_had := a_o_had) (a_o_told := a_o_told) (a_o_barred := a_o_barred) (a_o_cost := a_o_cost) (a_o_last := a_o_last) (a_o_often := a_o_often) (a_o_changeOf := a_o_changeOf) (a_o_changeAt := a_o_changeAt) (a_o_before := a_o_before) (a_o_behind := a_o_behind) (a_o_tape := a_o_tape) (a_o_act := a_o_act) (a_o_with := a_o_with) (a_o_lineMany := a_o_lineMany) (a_o_testEnd := a_o_testEnd) (a_o_lineEnd := a_o_lineEnd) (a_o_facts := a_o_facts) (a_o_pile := a_o_pile) (a_o_way := a_o_way) (a_o_bestWay := a_o_bestWay) (a_o_wasHad := a_o_wasHad) (a_o_wasLast := a_o_wasLast) (a_o_keptHad := a_o_keptHad) (a_o_keptTold := a_o_keptTold) (a_o_keptLast := a_o_keptLast) (a_o_keptOften := a_o_keptOften) (a_o_kind := a_o_kind) (a_o_traced := a_o_traced) (a_o_holds := a_o_holds) (a_o_size := a_o_size) (a_o_elements := a_o_elements) (a_o_shifted := a_o_shifted) (x_o_code := x_o_code) (x_o_lamps := x_o_lamps) (x_o_at := x_o_at) (x_o_night := x_o_night) (x_o_spent := x_o_spent) (x_o_rest := x_o_rest) (x_o_shy := x_o_shy) (x_o_hasBegun := x_o_hasBegun) (x_o_doneMany := x_o_doneMany) (x_o_undoneMany := x_o_undoneMany) (x_o_taped := x_o_taped) (x_o_here := x_o_here) (x_o_fault := x_o_fault) (x_o_open := x_o_open) (x_o_laid := x_o_laid) (x_o_hasLaw := x_o_hasLaw) (x_o_bestMany := x_o_bestMany) (x_o_wasAt := x_o_wasAt) (x_o_wasNight := x_o_wasNight) (x_o_hasImage := x_o_hasImage) (x_o_keptLamps := x_o_keptLamps) (x_o_keptAt := x_o_keptAt) (x_o_keptNight := x_o_keptNight) (x_o_keptSpent := x_o_keptSpent) (x_o_bodies := x_o_bodies)   hc16) yy_Mo_showing kf_Mo rfl mw_6_158 d_Mo_act_45 rfl [] rfl rfl (Nat.le_of_ble_eq_true rfl) ⟨Nat.le_of_ble_eq_true rfl, Nat.le_of_ble_eq_true rfl⟩ rfl rfl (Nat.zero_le _) (Nat.zero_le _) 0 rfl [0, 1, 2] rfl (by decide +kernel) rfl (g_lay_sel _ _ _ _ [(0, true), (1, true), (2, true)] (by decide +kernel) rfl (by decide +kernel) rfl rfl) rfl ?_
          refine g_goto (tgt := 71) C d_Mo_act_48 rfl ?_
          replace hf := g_o2 hf; obtain ⟨h1, hf⟩ := hf; subst h1
          replace hf := g_o2 hf; obtain ⟨h1, hf⟩ := hf; subst h1
          replace hf := Option.some.inj hf; subst hf
          exact g_iret C d_Mo_act_71 () rfl
      · replace hf := g_ip h hf
        refine g_aload_n (pc' := 29) C 0 d_Mo_act_28 rfl rfl ?_
        refine g_iload_n (pc' := 30) C 1 d_Mo_act_29 rfl rfl ?_
        refine g_iload_n (pc' := 31) C 3 d_Mo_act_30 rfl rfl ?_
        replace hf := g_bi hf; obtain ⟨⟨r17, u18, u19⟩, hc20, hf⟩ := hf
        dsimp only at hf
        refine g_callV (pc' := 34) (st1 := [.int r17]) (ws1 := [O_Mo a_o x_o_code x_o_lamps x_o_at x_o_night x_o_spent x_o_rest x_o_shy a_o_had a_o_told a_o_barred a_o_cost a_o_last a_o_often x_o_hasBegun x_o_doneMany x_o_undoneMany a_o_changeOf a_o_changeAt a_o_before a_o_behind a_o_tape x_o_taped x_o_here x_o_fault x_o_open x_o_laid a_o_act a_o_with a_o_lineMany a_o_testEnd a_o_lineEnd a_o_facts a_o_pile x_o_hasLaw a_o_way a_o_bestWay x_o_bestMany a_o_wasHad a_o_wasLast x_o_wasAt x_o_wasNight x_o_hasImage x_o_keptLamps x_o_keptAt x_o_keptNight x_o_keptSpent a_o_keptHad a_o_keptTold a_o_keptLast a_o_keptOften x_o_bodies a_o_kind u18 a_o_traced a_o_holds a_o_size a_o_elements a_o_shifted, A_I dA a_o_kind 50 x_o_kind, A_I dA a_o_traced 24 u19]) C (c_Mo_lighting (l := l) (D := D) (dA := dA) (a_o := a_o) (a_o_had := a_o_had) (a_o_told := a_o_told) (a_o_barred := a_o_barred) (a_o_cost := a_o_cost) (a_o_last := a_o_last) (a_o_often := a_o_often) (a_o_changeOf := a_o_changeOf) (a_o_changeAt := a_o_changeAt) (a_o_before := a_o_before) (a_o_behind := a_o_behind) (a_o_tape := a_o_tape) (a_o_act := a_o_act) (a_o_with := a_o_with) (a_o_lineMany := a_o_lineMany) (a_o_testEnd := a_o_testEnd) (a_o_lineEnd := a_o_lineEnd) (a_o_facts := a_o_facts) (a_o_pile := a_o_pile) (a_o_way := a_o_way) (a_o_bestWay := a_o_bestWay) (a_o_wasHad := a_o_wasHad) (a_o_wasLast := a_o_wasLast) (a_o_keptHad := a_o_keptHad) (a_o_keptTold := a_o_keptTold) (a_o_keptLast := a_o_keptLast) (a_o_keptOften := a_o_keptOften) (a_o_kind := a_o_kind) (a_o_traced := a_o_traced) (a_o_holds := a_o_holds) (a_o_size := a_o_size) (a_o_elements := a_o_elements) (a_o_shifted := a_o_shifted) (x_o_code := x_o_code) (x_o_lamps := x_o_lamps) (x_o_at := x_o_at) (x_o_night := x_o_night) (x_o_spent := x_o_spent) (x_o_rest := x_o_rest) (x_o_shy := x_o_shy) (x_o_hasBegun := x_o_hasBegun) (x_o_doneMany := x_o_doneMany) (x_o_undoneMany := x_o_undoneMany) (x_o_taped := x_o_taped) (x_o_here := x_o_here) (x_o_fault := x_o_fault) (x_o_open := x_o_open) (x_o_laid := x_o_laid) (x_o_hasLaw := x_o_hasLaw) (x_o_bestMany := x_o_bestMany) (x_o_wasAt := x_o_wasAt) (x_o_wasNight := x_o_wasNight) (x_o_hasImage := x_o_hasImage) (x_o_keptLamps := x_o_keptLamps) (x_o_keptAt := x_o_keptAt) (x_o_keptNight := x_o_keptNight) (x_o_keptSpent := x_o_keptSpent) (x_o_bodies := x_o_bodies)   hc20) yy_Mo_lighting kf_Mo rfl mw_6_139 d_Mo_act_31 rfl [] rfl rfl (Nat.le_of_ble_eq_true rfl) ⟨Nat.le_of_ble_eq_true rfl, Nat.le_of_ble_eq_true rfl⟩ rfl rfl (Nat.zero_le _) (Nat.zero_le _) 0 rfl [0, 1, 2] rfl (by decide +kernel) rfl (g_lay_sel _ _ _ _ [(0, true), (1, true), (2, true)] (by decide +kernel) rfl (by decide +kernel) rfl rfl) rfl ?_
        refine g_goto (tgt := 71) C d_Mo_act_34 rfl ?_
        replace hf := g_o2 hf; obtain ⟨h1, hf⟩ := hf; subst h1
        replace hf := g_o2 hf; obtain ⟨h1, hf⟩ := hf; subst h1
        replace hf := Option.some.inj hf; subst hf
        exact g_iret C d_Mo_act_71 () rfl
    · replace hf := g_bf h hf
      refine g_iconst (pc' := 23) (v := 0) C d_Mo_act_22 rfl rfl ?_
      replace hf := g_o2 hf; obtain ⟨h1, hf⟩ := hf; subst h1
      replace hf := g_o2 hf; obtain ⟨h1, hf⟩ := hf; subst h1
      replace hf := Option.some.inj hf; subst hf
      exact g_iret C d_Mo_act_23 () rfl
def y_Mo_toldMany : MethodName := ⟨"OneLampModel", "toldMany", "()I"⟩
theorem yy_Mo_toldMany : YV y_Mo_toldMany prog_13_method_92_code 3 (some .int) 0 := ⟨mw_6_197, mw_1_12, mw_6_196, tm_s (y := y_Mo_toldMany) (n := 58) (by decide +kernel), by decide +kernel, by decide +kernel, by decide +kernel⟩
theorem d_Mo_toldMany_0 : decode prog_13_method_92_code 0 = .ok (.iconst 0, 1) := by decide +kernel
theorem d_Mo_toldMany_1 : decode prog_13_method_92_code 1 = .ok (.istore_n 1, 1) := by decide +kernel
theorem d_Mo_toldMany_2 : decode prog_13_method_92_code 2 = .ok (.iconst 0, 1) := by decide +kernel
theorem d_Mo_toldMany_3 : decode prog_13_method_92_code 3 = .ok (.istore_n 2, 1) := by decide +kernel
theorem d_Mo_toldMany_4 : decode prog_13_method_92_code 4 = .ok (.iload_n 2, 1) := by decide +kernel
theorem d_Mo_toldMany_5 : decode prog_13_method_92_code 5 = .ok (.sipush 1024, 3) := by decide +kernel
theorem d_Mo_toldMany_8 : decode prog_13_method_92_code 8 = .ok (.if_icmp .ge 21, 3) := by decide +kernel
theorem d_Mo_toldMany_11 : decode prog_13_method_92_code 11 = .ok (.aload_n 0, 1) := by decide +kernel
theorem d_Mo_toldMany_12 : decode prog_13_method_92_code 12 = .ok (.getfield 17, 3) := by decide +kernel
theorem d_Mo_toldMany_15 : decode prog_13_method_92_code 15 = .ok (.iload_n 2, 1) := by decide +kernel
theorem d_Mo_toldMany_16 : decode prog_13_method_92_code 16 = .ok (.baload, 1) := by decide +kernel
theorem d_Mo_toldMany_17 : decode prog_13_method_92_code 17 = .ok (.ifCond .eq 6, 3) := by decide +kernel
theorem d_Mo_toldMany_20 : decode prog_13_method_92_code 20 = .ok (.iinc 1 1, 3) := by decide +kernel
theorem d_Mo_toldMany_23 : decode prog_13_method_92_code 23 = .ok (.iinc 2 1, 3) := by decide +kernel
theorem d_Mo_toldMany_26 : decode prog_13_method_92_code 26 = .ok (.goto (-22), 3) := by decide +kernel
theorem d_Mo_toldMany_29 : decode prog_13_method_92_code 29 = .ok (.iload_n 1, 1) := by decide +kernel
theorem d_Mo_toldMany_30 : decode prog_13_method_92_code 30 = .ok (.ireturn, 1) := by decide +kernel
def f_Mo_toldMany_L23  (k4 : Int32 → Int32 → (Nat → Int32) → Option (Int32)) (v1 : Int32) (v2 : Int32) (x_o_told : Nat → Int32) : Option (Int32) :=
  k4 v1 (v2 + 1) x_o_told
set_option maxRecDepth 20000 in
theorem w_Mo_toldMany_L23 {p : Program} {l : Launch} {e : Env} {s : State} {m : MethodId} {args : Array Value} {below : List Frame} {meth : Method} {c : Code} {D : va_G} {dA : Nat → ClassId} {A : Nat → Prop} (C : GC p s m args meth c prog_13_method_92_code 3 "OneLampModel" (some .int) D dA A) {a_o a_o_had a_o_told a_o_barred a_o_cost a_o_last a_o_often a_o_changeOf a_o_changeAt a_o_before a_o_behind a_o_tape a_o_act a_o_with a_o_lineMany a_o_testEnd a_o_lineEnd a_o_facts a_o_pile a_o_way a_o_bestWay a_o_wasHad a_o_wasLast a_o_keptHad a_o_keptTold a_o_keptLast a_o_keptOften a_o_kind a_o_traced a_o_holds a_o_size a_o_elements a_o_shifted : Nat} {x_o_code : Int32} {x_o_lamps : Int32} {x_o_at : Int32} {x_o_night : Int32} {x_o_spent : Int32} {x_o_rest : Int32} {x_o_shy : Int32} {x_o_hasBegun : Bool} {x_o_doneMany : Int32} {x_o_undoneMany : Int32} {x_o_taped : Int32} {x_o_here : Int32} {x_o_fault : Int32} {x_o_open : Int32} {x_o_laid : Int32} {x_o_hasLaw : Bool} {x_o_bestMany : Int32} {x_o_wasAt : Int32} {x_o_wasNight : Int32} {x_o_hasImage : Bool} {x_o_keptLamps : Int32} {x_o_keptAt : Int32} {x_o_keptNight : Int32} {x_o_keptSpent : Int32} {x_o_bodies : Int32} {x_o_traces : Int32} {r0 : Int32}   (k4 : Int32 → Int32 → (Nat → Int32) → Option (Int32)) (hk4 : ∀ (v1 : Int32) (v2 : Int32) (x_o_told : Nat → Int32), k4 v1 v2 x_o_told = some r0 → GG p l e { frames := 0, cells := 0, slots := 0, locals := 0 } s m args below meth c 3 D A 0 0 (MQ below (cQ D A (some (.int r0)) (fun _ : Unit => [O_Mo a_o x_o_code x_o_lamps x_o_at x_o_night x_o_spent x_o_rest x_o_shy a_o_had a_o_told a_o_barred a_o_cost a_o_last a_o_often x_o_hasBegun x_o_doneMany x_o_undoneMany a_o_changeOf a_o_changeAt a_o_before a_o_behind a_o_tape x_o_taped x_o_here x_o_fault x_o_open x_o_laid a_o_act a_o_with a_o_lineMany a_o_testEnd a_o_lineEnd a_o_facts a_o_pile x_o_hasLaw a_o_way a_o_bestWay x_o_bestMany a_o_wasHad a_o_wasLast x_o_wasAt x_o_wasNight x_o_hasImage x_o_keptLamps x_o_keptAt x_o_keptNight x_o_keptSpent a_o_keptHad a_o_keptTold a_o_keptLast a_o_keptOften x_o_bodies a_o_kind x_o_traces a_o_traced a_o_holds a_o_size a_o_elements a_o_shifted, A_Z dA a_o_told 1024 x_o_told])) args s 0 0 A) 4 [(0, .ref a_o), (1, .int v1), (2, .int v2)] [] [O_Mo a_o x_o_code x_o_lamps x_o_at x_o_night x_o_spent x_o_rest x_o_shy a_o_had a_o_told a_o_barred a_o_cost a_o_last a_o_often x_o_hasBegun x_o_doneMany x_o_undoneMany a_o_changeOf a_o_changeAt a_o_before a_o_behind a_o_tape x_o_taped x_o_here x_o_fault x_o_open x_o_laid a_o_act a_o_with a_o_lineMany a_o_testEnd a_o_lineEnd a_o_facts a_o_pile x_o_hasLaw a_o_way a_o_bestWay x_o_bestMany a_o_wasHad a_o_wasLast x_o_wasAt x_o_wasNight x_o_hasImage x_o_keptLamps x_o_keptAt x_o_keptNight x_o_keptSpent a_o_keptHad a_o_keptTold a_o_keptLast a_o_keptOften x_o_bodies a_o_kind x_o_traces a_o_traced a_o_holds a_o_size a_o_elements a_o_shifted, A_Z dA a_o_told 1024 x_o_told]) (v1 : Int32) (v2 : Int32) (x_o_told : Nat → Int32) (hf : f_Mo_toldMany_L23  k4 v1 v2 x_o_told = some r0) : GG p l e { frames := 0, cells := 0, slots := 0, locals := 0 } s m args below meth c 3 D A 0 0 (MQ below (cQ D A (some (.int r0)) (fun _ : Unit => [O_Mo a_o x_o_code x_o_lamps x_o_at x_o_night x_o_spent x_o_rest x_o_shy a_o_had a_o_told a_o_barred a_o_cost a_o_last a_o_often x_o_hasBegun x_o_doneMany x_o_undoneMany a_o_changeOf a_o_changeAt a_o_before a_o_behind a_o_tape x_o_taped x_o_here x_o_fault x_o_open x_o_laid a_o_act a_o_with a_o_lineMany a_o_testEnd a_o_lineEnd a_o_facts a_o_pile x_o_hasLaw a_o_way a_o_bestWay x_o_bestMany a_o_wasHad a_o_wasLast x_o_wasAt x_o_wasNight x_o_hasImage x_o_keptLamps x_o_keptAt x_o_keptNight x_o_keptSpent a_o_keptHad a_o_keptTold a_o_keptLast a_o_keptOften x_o_bodies a_o_kind x_o_traces a_o_traced a_o_holds a_o_size a_o_elements a_o_shifted, A_Z dA a_o_told 1024 x_o_told])) args s 0 0 A) 23 [(0, .ref a_o), (1, .int v1), (2, .int v2)] [] [O_Mo a_o x_o_code x_o_lamps x_o_at x_o_night x_o_spent x_o_rest x_o_shy a_o_had a_o_told a_o_barred a_o_cost a_o_last a_o_often x_o_hasBegun x_o_doneMany x_o_undoneMany a_o_changeOf a_o_changeAt a_o_before a_o_behind a_o_tape x_o_taped x_o_here x_o_fault x_o_open x_o_laid a_o_act a_o_with a_o_lineMany a_o_testEnd a_o_lineEnd a_o_facts a_o_pile x_o_hasLaw a_o_way a_o_bestWay x_o_bestMany a_o_wasHad a_o_wasLast x_o_wasAt x_o_wasNight x_o_hasImage x_o_keptLamps x_o_keptAt x_o_keptNight x_o_keptSpent a_o_keptHad a_o_keptTold a_o_keptLast a_o_keptOften x_o_bodies a_o_kind x_o_traces a_o_traced a_o_holds a_o_size a_o_elements a_o_shifted, A_Z dA a_o_told 1024 x_o_told] := by
  unfold f_Mo_toldMany_L23 at hf
  refine g_iinc (pc' := 26) (j := 2) (v := (v2 + 1)) (lv' := [(2, .int (v2 + 1)), (0, .ref a_o), (1, .int v1)]) C d_Mo_toldMany_23 rfl rfl rfl (by decide) rfl ?_
  refine g_goto (tgt := 4) C d_Mo_toldMany_26 rfl ?_
  refine g_lv (lv' := [(0, .ref a_o), (1, .int v1), (2, .int (v2 + 1))]) [1, 2, 0] rfl ?_
  exact hk4 v1 (v2 + 1) x_o_told hf
def f_Mo_toldMany_L4   : Nat → Int32 → Int32 → (Nat → Int32) → Option (Int32)
  | 0, _, _, _ => none
  | n + 1, v1, v2, x_o_told =>
    if (1024 : Int32) ≤ v2 then
      (some (v1))
    else
      (if v2 < 0 ∨ 1024 ≤ Int32.toNatClampNeg v2 then none else
      if (x_o_told (Int32.toNatClampNeg v2)) = 0 then
        (f_Mo_toldMany_L23 (f_Mo_toldMany_L4  n) v1 v2 x_o_told)
      else
        (f_Mo_toldMany_L23 (f_Mo_toldMany_L4  n) (v1 + 1) v2 x_o_told))
set_option maxRecDepth 20000 in
theorem w_Mo_toldMany_L4 {p : Program} {l : Launch} {e : Env} {s : State} {m : MethodId} {args : Array Value} {below : List Frame} {meth : Method} {c : Code} {D : va_G} {dA : Nat → ClassId} {A : Nat → Prop} (C : GC p s m args meth c prog_13_method_92_code 3 "OneLampModel" (some .int) D dA A) {a_o a_o_had a_o_told a_o_barred a_o_cost a_o_last a_o_often a_o_changeOf a_o_changeAt a_o_before a_o_behind a_o_tape a_o_act a_o_with a_o_lineMany a_o_testEnd a_o_lineEnd a_o_facts a_o_pile a_o_way a_o_bestWay a_o_wasHad a_o_wasLast a_o_keptHad a_o_keptTold a_o_keptLast a_o_keptOften a_o_kind a_o_traced a_o_holds a_o_size a_o_elements a_o_shifted : Nat} {x_o_code : Int32} {x_o_lamps : Int32} {x_o_at : Int32} {x_o_night : Int32} {x_o_spent : Int32} {x_o_rest : Int32} {x_o_shy : Int32} {x_o_hasBegun : Bool} {x_o_doneMany : Int32} {x_o_undoneMany : Int32} {x_o_taped : Int32} {x_o_here : Int32} {x_o_fault : Int32} {x_o_open : Int32} {x_o_laid : Int32} {x_o_hasLaw : Bool} {x_o_bestMany : Int32} {x_o_wasAt : Int32} {x_o_wasNight : Int32} {x_o_hasImage : Bool} {x_o_keptLamps : Int32} {x_o_keptAt : Int32} {x_o_keptNight : Int32} {x_o_keptSpent : Int32} {x_o_bodies : Int32} {x_o_traces : Int32} {r0 : Int32}    : ∀ (n : Nat) (v1 : Int32) (v2 : Int32) (x_o_told : Nat → Int32), f_Mo_toldMany_L4   n v1 v2 x_o_told = some r0 → GG p l e { frames := 0, cells := 0, slots := 0, locals := 0 } s m args below meth c 3 D A 0 0 (MQ below (cQ D A (some (.int r0)) (fun _ : Unit => [O_Mo a_o x_o_code x_o_lamps x_o_at x_o_night x_o_spent x_o_rest x_o_shy a_o_had a_o_told a_o_barred a_o_cost a_o_last a_o_often x_o_hasBegun x_o_doneMany x_o_undoneMany a_o_changeOf a_o_changeAt a_o_before a_o_behind a_o_tape x_o_taped x_o_here x_o_fault x_o_open x_o_laid a_o_act a_o_with a_o_lineMany a_o_testEnd a_o_lineEnd a_o_facts a_o_pile x_o_hasLaw a_o_way a_o_bestWay x_o_bestMany a_o_wasHad a_o_wasLast x_o_wasAt x_o_wasNight x_o_hasImage x_o_keptLamps x_o_keptAt x_o_keptNight x_o_keptSpent a_o_keptHad a_o_keptTold a_o_keptLast a_o_keptOften x_o_bodies a_o_kind x_o_traces a_o_traced a_o_holds a_o_size a_o_elements a_o_shifted, A_Z dA a_o_told 1024 x_o_told])) args s 0 0 A) 4 [(0, .ref a_o), (1, .int v1), (2, .int v2)] [] [O_Mo a_o x_o_code x_o_lamps x_o_at x_o_night x_o_spent x_o_rest x_o_shy a_o_had a_o_told a_o_barred a_o_cost a_o_last a_o_often x_o_hasBegun x_o_doneMany x_o_undoneMany a_o_changeOf a_o_changeAt a_o_before a_o_behind a_o_tape x_o_taped x_o_here x_o_fault x_o_open x_o_laid a_o_act a_o_with a_o_lineMany a_o_testEnd a_o_lineEnd a_o_facts a_o_pile x_o_hasLaw a_o_way a_o_bestWay x_o_bestMany a_o_wasHad a_o_wasLast x_o_wasAt x_o_wasNight x_o_hasImage x_o_keptLamps x_o_keptAt x_o_keptNight x_o_keptSpent a_o_keptHad a_o_keptTold a_o_keptLast a_o_keptOften x_o_bodies a_o_kind x_o_traces a_o_traced a_o_holds a_o_size a_o_elements a_o_shifted, A_Z dA a_o_told 1024 x_o_told] := by
  intro n
  induction n with
  | zero =>
    intro v1 v2 x_o_told hf
    cases hf
  | succ n ih =>
    intro v1 v2 x_o_told hf
    unfold f_Mo_toldMany_L4 at hf
    refine g_iload_n (pc' := 5) C 2 d_Mo_toldMany_4 rfl rfl ?_
    refine g_sipush (pc' := 8) (v := 1024) C d_Mo_toldMany_5 rfl rfl ?_
    refine g_icmp_ge (pc' := 11) (tgt := 29) C d_Mo_toldMany_8 rfl rfl (fun h => ?_) (fun h => ?_)
    · replace hf := g_ip h hf
      refine g_iload_n (pc' := 30) C 1 d_Mo_toldMany_29 rfl rfl ?_
      replace hf := Option.some.inj hf; subst hf
      exact g_iret C d_Mo_toldMany_30 () rfl
    · replace hf := g_in h hf
      refine g_aload_n (pc' := 12) C 0 d_Mo_toldMany_11 rfl rfl ?_
      refine g_get (pc' := 15) C kf_Mo 8 mw_4_146 d_Mo_toldMany_12 rfl 0 rfl (by decide) rfl ?_
      refine g_iload_n (pc' := 16) C 2 d_Mo_toldMany_15 rfl rfl ?_
      have hb := g_ck hf
      replace hf := g_in hb hf
      refine g_zald (pc' := 17) C d_Mo_toldMany_16 rfl 1 rfl hb ?_
      refine g_if_eq (pc' := 20) (tgt := 23) C d_Mo_toldMany_17 rfl rfl (fun h => ?_) (fun h => ?_)
      · replace hf := g_ip h hf
        exact w_Mo_toldMany_L23 (a_o := a_o) (a_o_had := a_o_had) (a_o_told := a_o_told) (a_o_barred := a_o_barred) (a_o_cost := a_o_cost) (a_o_last := a_o_last) (a_o_often := a_o_often) (a_o_changeOf := a_o_changeOf) (a_o_changeAt := a_o_changeAt) (a_o_before := a_o_before) (a_o_behind := a_o_behind) (a_o_tape := a_o_tape) (a_o_act := a_o_act) (a_o_with := a_o_with) (a_o_lineMany := a_o_lineMany) (a_o_testEnd := a_o_testEnd) (a_o_lineEnd := a_o_lineEnd) (a_o_facts := a_o_facts) (a_o_pile := a_o_pile) (a_o_way := a_o_way) (a_o_bestWay := a_o_bestWay) (a_o_wasHad := a_o_wasHad) (a_o_wasLast := a_o_wasLast) (a_o_keptHad := a_o_keptHad) (a_o_keptTold := a_o_keptTold) (a_o_keptLast := a_o_keptLast) (a_o_keptOften := a_o_keptOften) (a_o_kind := a_o_kind) (a_o_traced := a_o_traced) (a_o_holds := a_o_holds) (a_o_size := a_o_size) (a_o_elements := a_o_elements) (a_o_shifted := a_o_shifted) C  (f_Mo_toldMany_L4  n) ih v1 v2 x_o_told hf
      · replace hf := g_in h hf
        refine g_iinc (pc' := 23) (j := 1) (v := (v1 + 1)) (lv' := [(1, .int (v1 + 1)), (0, .ref a_o), (2, .int v2)]) C d_Mo_toldMany_20 rfl rfl rfl (by decide) rfl ?_
        refine g_lv (lv' := [(0, .ref a_o), (1, .int (v1 + 1)), (2, .int v2)]) [1, 0, 2] rfl ?_
        exact w_Mo_toldMany_L23 (a_o := a_o) (a_o_had := a_o_had) (a_o_told := a_o_told) (a_o_barred := a_o_barred) (a_o_cost := a_o_cost) (a_o_last := a_o_last) (a_o_often := a_o_often) (a_o_changeOf := a_o_changeOf) (a_o_changeAt := a_o_changeAt) (a_o_before := a_o_before) (a_o_behind := a_o_behind) (a_o_tape := a_o_tape) (a_o_act := a_o_act) (a_o_with := a_o_with) (a_o_lineMany := a_o_lineMany) (a_o_testEnd := a_o_testEnd) (a_o_lineEnd := a_o_lineEnd) (a_o_facts := a_o_facts) (a_o_pile := a_o_pile) (a_o_way := a_o_way) (a_o_bestWay := a_o_bestWay) (a_o_wasHad := a_o_wasHad) (a_o_wasLast := a_o_wasLast) (a_o_keptHad := a_o_keptHad) (a_o_keptTold := a_o_keptTold) (a_o_keptLast := a_o_keptLast) (a_o_keptOften := a_o_keptOften) (a_o_kind := a_o_kind) (a_o_traced := a_o_traced) (a_o_holds := a_o_holds) (a_o_size := a_o_size) (a_o_elements := a_o_elements) (a_o_shifted := a_o_shifted) C  (f_Mo_toldMany_L4  n) ih (v1 + 1) v2 x_o_told hf
def f_Mo_toldMany  (x_o_told : Nat → Int32) : Option (Int32) :=
  f_Mo_toldMany_L4  3000 (0 : Int32) (0 : Int32) x_o_told
set_option maxRecDepth 20000 in
theorem c_Mo_toldMany {l : Launch} {D : va_G} {dA : Nat → ClassId} {a_o a_o_had a_o_told a_o_barred a_o_cost a_o_last a_o_often a_o_changeOf a_o_changeAt a_o_before a_o_behind a_o_tape a_o_act a_o_with a_o_lineMany a_o_testEnd a_o_lineEnd a_o_facts a_o_pile a_o_way a_o_bestWay a_o_wasHad a_o_wasLast a_o_keptHad a_o_keptTold a_o_keptLast a_o_keptOften a_o_kind a_o_traced a_o_holds a_o_size a_o_elements a_o_shifted : Nat} {x_o_code : Int32} {x_o_lamps : Int32} {x_o_at : Int32} {x_o_night : Int32} {x_o_spent : Int32} {x_o_rest : Int32} {x_o_shy : Int32} {x_o_hasBegun : Bool} {x_o_doneMany : Int32} {x_o_undoneMany : Int32} {x_o_taped : Int32} {x_o_here : Int32} {x_o_fault : Int32} {x_o_open : Int32} {x_o_laid : Int32} {x_o_hasLaw : Bool} {x_o_bestMany : Int32} {x_o_wasAt : Int32} {x_o_wasNight : Int32} {x_o_hasImage : Bool} {x_o_keptLamps : Int32} {x_o_keptAt : Int32} {x_o_keptNight : Int32} {x_o_keptSpent : Int32} {x_o_bodies : Int32} {x_o_traces : Int32} {x_o_told : Nat → Int32} {r0 : Int32}   (hf : f_Mo_toldMany  x_o_told = some r0) : CT l y_Mo_toldMany prog_13_method_92_code 3 (some .int) { frames := 0, cells := 0, slots := 0, locals := 0 } D dA [.ref a_o] [O_Mo a_o x_o_code x_o_lamps x_o_at x_o_night x_o_spent x_o_rest x_o_shy a_o_had a_o_told a_o_barred a_o_cost a_o_last a_o_often x_o_hasBegun x_o_doneMany x_o_undoneMany a_o_changeOf a_o_changeAt a_o_before a_o_behind a_o_tape x_o_taped x_o_here x_o_fault x_o_open x_o_laid a_o_act a_o_with a_o_lineMany a_o_testEnd a_o_lineEnd a_o_facts a_o_pile x_o_hasLaw a_o_way a_o_bestWay x_o_bestMany a_o_wasHad a_o_wasLast x_o_wasAt x_o_wasNight x_o_hasImage x_o_keptLamps x_o_keptAt x_o_keptNight x_o_keptSpent a_o_keptHad a_o_keptTold a_o_keptLast a_o_keptOften x_o_bodies a_o_kind x_o_traces a_o_traced a_o_holds a_o_size a_o_elements a_o_shifted, A_Z dA a_o_told 1024 x_o_told] (some (.int r0)) (fun _ : Unit => [O_Mo a_o x_o_code x_o_lamps x_o_at x_o_night x_o_spent x_o_rest x_o_shy a_o_had a_o_told a_o_barred a_o_cost a_o_last a_o_often x_o_hasBegun x_o_doneMany x_o_undoneMany a_o_changeOf a_o_changeAt a_o_before a_o_behind a_o_tape x_o_taped x_o_here x_o_fault x_o_open x_o_laid a_o_act a_o_with a_o_lineMany a_o_testEnd a_o_lineEnd a_o_facts a_o_pile x_o_hasLaw a_o_way a_o_bestWay x_o_bestMany a_o_wasHad a_o_wasLast x_o_wasAt x_o_wasNight x_o_hasImage x_o_keptLamps x_o_keptAt x_o_keptNight x_o_keptSpent a_o_keptHad a_o_keptTold a_o_keptLast a_o_keptOften x_o_bodies a_o_kind x_o_traces a_o_traced a_o_holds a_o_size a_o_elements a_o_shifted, A_Z dA a_o_told 1024 x_o_told]) := by
  refine ct_intro "OneLampModel" rfl (by decide +kernel) (Nat.le_of_ble_eq_true rfl) [(0, .ref a_o)] rfl (fun _ C => ?_)
  unfold f_Mo_toldMany at hf
  refine g_iconst (pc' := 1) (v := 0) C d_Mo_toldMany_0 rfl rfl ?_
  refine g_istore_n (pc' := 2) (lv' := [(1, .int 0), (0, .ref a_o)]) C d_Mo_toldMany_1 rfl (by decide) rfl ?_
  refine g_iconst (pc' := 3) (v := 0) C d_Mo_toldMany_2 rfl rfl ?_
  refine g_istore_n (pc' := 4) (lv' := [(2, .int 0), (1, .int 0), (0, .ref a_o)]) C d_Mo_toldMany_3 rfl (by decide) rfl ?_
  refine g_lv (lv' := [(0, .ref a_o), (1, .int (0 : Int32)), (2, .int (0 : Int32))]) [2, 1, 0] rfl ?_
  exact w_Mo_toldMany_L4 (a_o := a_o) (a_o_had := a_o_had) (a_o_told := a_o_told) (a_o_barred := a_o_barred) (a_o_cost := a_o_cost) (a_o_last := a_o_last) (a_o_often := a_o_often) (a_o_changeOf := a_o_changeOf) (a_o_changeAt := a_o_changeAt) (a_o_before := a_o_before) (a_o_behind := a_o_behind) (a_o_tape := a_o_tape) (a_o_act := a_o_act) (a_o_with := a_o_with) (a_o_lineMany := a_o_lineMany) (a_o_testEnd := a_o_testEnd) (a_o_lineEnd := a_o_lineEnd) (a_o_facts := a_o_facts) (a_o_pile := a_o_pile) (a_o_way := a_o_way) (a_o_bestWay := a_o_bestWay) (a_o_wasHad := a_o_wasHad) (a_o_wasLast := a_o_wasLast) (a_o_keptHad := a_o_keptHad) (a_o_keptTold := a_o_keptTold) (a_o_keptLast := a_o_keptLast) (a_o_keptOften := a_o_keptOften) (a_o_kind := a_o_kind) (a_o_traced := a_o_traced) (a_o_holds := a_o_holds) (a_o_size := a_o_size) (a_o_elements := a_o_elements) (a_o_shifted := a_o_shifted) C   3000 (0 : Int32) (0 : Int32) x_o_told hf
def y_Mo_count : MethodName := ⟨"OneLampModel", "count", "(I)I"⟩
theorem yy_Mo_count : YV y_Mo_count prog_13_method_93_code 2 (some .int) 1 := ⟨mw_6_193, mw_1_12, mw_6_191, mw_6_192, by decide +kernel, by decide +kernel, by decide +kernel⟩
theorem d_Mo_count_0 : decode prog_13_method_93_code 0 = .ok (.iload_n 1, 1) := by decide +kernel
theorem d_Mo_count_1 : decode prog_13_method_93_code 1 = .ok (.tableswitch 60 0 4 #[35, 40, 45, 50, 55], 35) := by decide +kernel
theorem d_Mo_count_36 : decode prog_13_method_93_code 36 = .ok (.aload_n 0, 1) := by decide +kernel
theorem d_Mo_count_37 : decode prog_13_method_93_code 37 = .ok (.invokevirtual 397, 3) := by decide +kernel
theorem d_Mo_count_40 : decode prog_13_method_93_code 40 = .ok (.ireturn, 1) := by decide +kernel
theorem d_Mo_count_41 : decode prog_13_method_93_code 41 = .ok (.aload_n 0, 1) := by decide +kernel
theorem d_Mo_count_42 : decode prog_13_method_93_code 42 = .ok (.getfield 182, 3) := by decide +kernel
theorem d_Mo_count_45 : decode prog_13_method_93_code 45 = .ok (.ireturn, 1) := by decide +kernel
theorem d_Mo_count_46 : decode prog_13_method_93_code 46 = .ok (.aload_n 0, 1) := by decide +kernel
theorem d_Mo_count_47 : decode prog_13_method_93_code 47 = .ok (.getfield 162, 3) := by decide +kernel
theorem d_Mo_count_50 : decode prog_13_method_93_code 50 = .ok (.ireturn, 1) := by decide +kernel
theorem d_Mo_count_51 : decode prog_13_method_93_code 51 = .ok (.aload_n 0, 1) := by decide +kernel
theorem d_Mo_count_52 : decode prog_13_method_93_code 52 = .ok (.getfield 348, 3) := by decide +kernel
theorem d_Mo_count_55 : decode prog_13_method_93_code 55 = .ok (.ireturn, 1) := by decide +kernel
theorem d_Mo_count_56 : decode prog_13_method_93_code 56 = .ok (.aload_n 0, 1) := by decide +kernel
theorem d_Mo_count_57 : decode prog_13_method_93_code 57 = .ok (.getfield 351, 3) := by decide +kernel
theorem d_Mo_count_60 : decode prog_13_method_93_code 60 = .ok (.ireturn, 1) := by decide +kernel
theorem d_Mo_count_61 : decode prog_13_method_93_code 61 = .ok (.iconst (-1), 1) := by decide +kernel
theorem d_Mo_count_62 : decode prog_13_method_93_code 62 = .ok (.ireturn, 1) := by decide +kernel
def f_Mo_count  (p1 : Int32) (x_o_doneMany : Int32) (x_o_taped : Int32) (x_o_bodies : Int32) (x_o_traces : Int32) (x_o_told : Nat → Int32) : Option (Int32) :=
  if p1 = 0 then
    ((f_Mo_toldMany  x_o_told).bind fun r1 =>
    some (r1))
  else
  (if p1 = 1 then
    (some (x_o_taped))
  else
  (if p1 = 2 then
    (some (x_o_doneMany))
  else
  (if p1 = 3 then
    (some (x_o_bodies))
  else
  (if p1 = 4 then
    (some (x_o_traces))
  else
  (some ((-1 : Int32)))))))
set_option maxRecDepth 20000 in
theorem c_Mo_count {l : Launch} {D : va_G} {dA : Nat → ClassId} {a_o a_o_had a_o_told a_o_barred a_o_cost a_o_last a_o_often a_o_changeOf a_o_changeAt a_o_before a_o_behind a_o_tape a_o_act a_o_with a_o_lineMany a_o_testEnd a_o_lineEnd a_o_facts a_o_pile a_o_way a_o_bestWay a_o_wasHad a_o_wasLast a_o_keptHad a_o_keptTold a_o_keptLast a_o_keptOften a_o_kind a_o_traced a_o_holds a_o_size a_o_elements a_o_shifted : Nat} {x_o_code : Int32} {x_o_lamps : Int32} {x_o_at : Int32} {x_o_night : Int32} {x_o_spent : Int32} {x_o_rest : Int32} {x_o_shy : Int32} {x_o_hasBegun : Bool} {x_o_undoneMany : Int32} {x_o_here : Int32} {x_o_fault : Int32} {x_o_open : Int32} {x_o_laid : Int32} {x_o_hasLaw : Bool} {x_o_bestMany : Int32} {x_o_wasAt : Int32} {x_o_wasNight : Int32} {x_o_hasImage : Bool} {x_o_keptLamps : Int32} {x_o_keptAt : Int32} {x_o_keptNight : Int32} {x_o_keptSpent : Int32} {p1 : Int32} {x_o_doneMany : Int32} {x_o_taped : Int32} {x_o_bodies : Int32} {x_o_traces : Int32} {x_o_told : Nat → Int32} {r0 : Int32}   (hf : f_Mo_count  p1 x_o_doneMany x_o_taped x_o_bodies x_o_traces x_o_told = some r0) : CT l y_Mo_count prog_13_method_93_code 2 (some .int) { frames := 1, cells := 0, slots := 0, locals := 22 } D dA [.ref a_o, .int p1] [O_Mo a_o x_o_code x_o_lamps x_o_at x_o_night x_o_spent x_o_rest x_o_shy a_o_had a_o_told a_o_barred a_o_cost a_o_last a_o_often x_o_hasBegun x_o_doneMany x_o_undoneMany a_o_changeOf a_o_changeAt a_o_before a_o_behind a_o_tape x_o_taped x_o_here x_o_fault x_o_open x_o_laid a_o_act a_o_with a_o_lineMany a_o_testEnd a_o_lineEnd a_o_facts a_o_pile x_o_hasLaw a_o_way a_o_bestWay x_o_bestMany a_o_wasHad a_o_wasLast x_o_wasAt x_o_wasNight x_o_hasImage x_o_keptLamps x_o_keptAt x_o_keptNight x_o_keptSpent a_o_keptHad a_o_keptTold a_o_keptLast a_o_keptOften x_o_bodies a_o_kind x_o_traces a_o_traced a_o_holds a_o_size a_o_elements a_o_shifted, A_Z dA a_o_told 1024 x_o_told] (some (.int r0)) (fun _ : Unit => [O_Mo a_o x_o_code x_o_lamps x_o_at x_o_night x_o_spent x_o_rest x_o_shy a_o_had a_o_told a_o_barred a_o_cost a_o_last a_o_often x_o_hasBegun x_o_doneMany x_o_undoneMany a_o_changeOf a_o_changeAt a_o_before a_o_behind a_o_tape x_o_taped x_o_here x_o_fault x_o_open x_o_laid a_o_act a_o_with a_o_lineMany a_o_testEnd a_o_lineEnd a_o_facts a_o_pile x_o_hasLaw a_o_way a_o_bestWay x_o_bestMany a_o_wasHad a_o_wasLast x_o_wasAt x_o_wasNight x_o_hasImage x_o_keptLamps x_o_keptAt x_o_keptNight x_o_keptSpent a_o_keptHad a_o_keptTold a_o_keptLast a_o_keptOften x_o_bodies a_o_kind x_o_traces a_o_traced a_o_holds a_o_size a_o_elements a_o_shifted, A_Z dA a_o_told 1024 x_o_told]) := by
  refine ct_intro "OneLampModel" rfl (by decide +kernel) (Nat.le_of_ble_eq_true rfl) [(0, .ref a_o), (1, .int p1)] rfl (fun _ C => ?_)
  unfold f_Mo_count at hf
  refine g_iload_n (pc' := 1) C 1 d_Mo_count_0 rfl rfl ?_
  by_cases q0 : p1 = 0
  · replace hf := g_ip q0 hf
    have e : (p1 : Int32).toInt = 0 := by rw [q0]; rfl
    refine g_tableIn (off := 35) (tgt := 36) C d_Mo_count_1 (by rw [e]; decide) (by rw [e]; decide) (by rw [e]; rfl) rfl ?_
    refine g_aload_n (pc' := 37) C 0 d_Mo_count_36 rfl rfl ?_
    replace hf := g_bi hf; obtain ⟨r1, hc2, hf⟩ := hf
    refine g_callV (pc' := 40) (st1 := [.int r1]) (ws1 := [O_Mo a_o x_o_code x_o_lamps x_o_at x_o_night x_o_spent x_o_rest x_o_shy a_o_had a_o_told a_o_barred a_o_cost a_o_last a_o_often x_o_hasBegun x_o_doneMany x_o_undoneMany a_o_changeOf a_o_changeAt a_o_before a_o_behind a_o_tape x_o_taped x_o_here x_o_fault x_o_open x_o_laid a_o_act a_o_with a_o_lineMany a_o_testEnd a_o_lineEnd a_o_facts a_o_pile x_o_hasLaw a_o_way a_o_bestWay x_o_bestMany a_o_wasHad a_o_wasLast x_o_wasAt x_o_wasNight x_o_hasImage x_o_keptLamps x_o_keptAt x_o_keptNight x_o_keptSpent a_o_keptHad a_o_keptTold a_o_keptLast a_o_keptOften x_o_bodies a_o_kind x_o_traces a_o_traced a_o_holds a_o_size a_o_elements a_o_shifted, A_Z dA a_o_told 1024 x_o_told]) C (c_Mo_toldMany (l := l) (D := D) (dA := dA) (a_o := a_o) (a_o_had := a_o_had) (a_o_told := a_o_told) (a_o_barred := a_o_barred) (a_o_cost := a_o_cost) (a_o_last := a_o_last) (a_o_often := a_o_often) (a_o_changeOf := a_o_changeOf) (a_o_changeAt := a_o_changeAt) (a_o_before := a_o_before) (a_o_behind := a_o_behind) (a_o_tape := a_o_tape) (a_o_act := a_o_act) (a_o_with := a_o_with) (a_o_lineMany := a_o_lineMany) (a_o_testEnd := a_o_testEnd) (a_o_lineEnd := a_o_lineEnd) (a_o_facts := a_o_facts) (a_o_pile := a_o_pile) (a_o_way := a_o_way) (a_o_bestWay := a_o_bestWay) (a_o_wasHad := a_o_wasHad) (a_o_wasLast := a_o_wasLast) (a_o_keptHad := a_o_keptHad) (a_o_keptTold := a_o_keptTold) (a_o_keptLast := a_o_keptLast) (a_o_keptOften := a_o_keptOften) (a_o_kind := a_o_kind) (a_o_traced := a_o_traced) (a_o_holds := a_o_holds) (a_o_size := a_o_size) (a_o_elements := a_o_elements) (a_o_shifted := a_o_shifted) (x_o_code := x_o_code) (x_o_lamps := x_o_lamps) (x_o_at := x_o_at) (x_o_night := x_o_night) (x_o_spent := x_o_spent) (x_o_rest := x_o_rest) (x_o_shy := x_o_shy) (x_o_hasBegun := x_o_hasBegun) (x_o_doneMany := x_o_doneMany) (x_o_undoneMany := x_o_undoneMany) (x_o_taped := x_o_taped) (x_o_here := x_o_here) (x_o_fault := x_o_fault) (x_o_open := x_o_open) (x_o_laid := x_o_laid) (x_o_hasLaw := x_o_hasLaw) (x_o_bestMany := x_o_bestMany) (x_o_wasAt := x_o_wasAt) (x_o_wasNight := x_o_wasNight) (x_o_hasImage := x_o_hasImage) (x_o_keptLamps := x_o_keptLamps) (x_o_keptAt := x_o_keptAt) (x_o_keptNight := x_o_keptNight) (x_o_keptSpent := x_o_keptSpent) (x_o_bodies := x_o_bodies) (x_o_traces := x_o_traces)   hc2) yy_Mo_toldMany kf_Mo rfl mw_6_194 d_Mo_count_37 rfl [] rfl rfl (Nat.le_of_ble_eq_true rfl) ⟨Nat.le_of_ble_eq_true rfl, Nat.le_of_ble_eq_true rfl⟩ rfl rfl (Nat.zero_le _) (Nat.zero_le _) 0 rfl [0, 1] rfl (by decide +kernel) rfl (g_lay_sel _ _ _ _ [(0, true), (1, true)] (by decide +kernel) rfl (by decide +kernel) rfl rfl) rfl ?_
    replace hf := Option.some.inj hf; subst hf
    exact g_iret C d_Mo_count_40 () rfl
  replace hf := g_in q0 hf
  by_cases q1 : p1 = 1
  · replace hf := g_ip q1 hf
    have e : (p1 : Int32).toInt = 1 := by rw [q1]; rfl
    refine g_tableIn (off := 40) (tgt := 41) C d_Mo_count_1 (by rw [e]; decide) (by rw [e]; decide) (by rw [e]; rfl) rfl ?_
    refine g_aload_n (pc' := 42) C 0 d_Mo_count_41 rfl rfl ?_
    refine g_get (pc' := 45) C kf_Mo 21 mw_4_159 d_Mo_count_42 rfl 0 rfl (by decide) rfl ?_
    replace hf := Option.some.inj hf; subst hf
    exact g_iret C d_Mo_count_45 () rfl
  replace hf := g_in q1 hf
  by_cases q2 : p1 = 2
  · replace hf := g_ip q2 hf
    have e : (p1 : Int32).toInt = 2 := by rw [q2]; rfl
    refine g_tableIn (off := 45) (tgt := 46) C d_Mo_count_1 (by rw [e]; decide) (by rw [e]; decide) (by rw [e]; rfl) rfl ?_
    refine g_aload_n (pc' := 47) C 0 d_Mo_count_46 rfl rfl ?_
    refine g_get (pc' := 50) C kf_Mo 14 mw_4_152 d_Mo_count_47 rfl 0 rfl (by decide) rfl ?_
    replace hf := Option.some.inj hf; subst hf
    exact g_iret C d_Mo_count_50 () rfl
  replace hf := g_in q2 hf
  by_cases q3 : p1 = 3
  · replace hf := g_ip q3 hf
    have e : (p1 : Int32).toInt = 3 := by rw [q3]; rfl
    refine g_tableIn (off := 50) (tgt := 51) C d_Mo_count_1 (by rw [e]; decide) (by rw [e]; decide) (by rw [e]; rfl) rfl ?_
    refine g_aload_n (pc' := 52) C 0 d_Mo_count_51 rfl rfl ?_
    refine g_get (pc' := 55) C kf_Mo 50 mw_4_188 d_Mo_count_52 rfl 0 rfl (by decide) rfl ?_
    replace hf := Option.some.inj hf; subst hf
    exact g_iret C d_Mo_count_55 () rfl
  replace hf := g_in q3 hf
  by_cases q4 : p1 = 4
  · replace hf := g_ip q4 hf
    have e : (p1 : Int32).toInt = 4 := by rw [q4]; rfl
    refine g_tableIn (off := 55) (tgt := 56) C d_Mo_count_1 (by rw [e]; decide) (by rw [e]; decide) (by rw [e]; rfl) rfl ?_
    refine g_aload_n (pc' := 57) C 0 d_Mo_count_56 rfl rfl ?_
    refine g_get (pc' := 60) C kf_Mo 52 mw_4_190 d_Mo_count_57 rfl 0 rfl (by decide) rfl ?_
    replace hf := Option.some.inj hf; subst hf
    exact g_iret C d_Mo_count_60 () rfl
  replace hf := g_in q4 hf
  refine g_tableOut (tgt := 61) C d_Mo_count_1 (by have e0 := lv_neT q0 (show (0 : Int32).toInt = 0 from rfl); have e1 := lv_neT q1 (show (1 : Int32).toInt = 1 from rfl); have e2 := lv_neT q2 (show (2 : Int32).toInt = 2 from rfl); have e3 := lv_neT q3 (show (3 : Int32).toInt = 3 from rfl); have e4 := lv_neT q4 (show (4 : Int32).toInt = 4 from rfl); omega) rfl ?_
  refine g_iconst (pc' := 62) (v := (-1)) C d_Mo_count_61 rfl rfl ?_
  replace hf := Option.some.inj hf; subst hf
  exact g_iret C d_Mo_count_62 () rfl
def y_Mo_keep : MethodName := ⟨"OneLampModel", "keep", "(II)I"⟩
theorem yy_Mo_keep : YV y_Mo_keep prog_13_method_95_code 3 (some .int) 2 := ⟨mw_6_201, mw_1_12, mw_6_199, mw_6_200, by decide +kernel, by decide +kernel, by decide +kernel⟩
theorem d_Mo_keep_0 : decode prog_13_method_95_code 0 = .ok (.iload_n 1, 1) := by decide +kernel
theorem d_Mo_keep_1 : decode prog_13_method_95_code 1 = .ok (.invokestatic 146, 3) := by decide +kernel
theorem d_Mo_keep_4 : decode prog_13_method_95_code 4 = .ok (.ifCond .eq 16, 3) := by decide +kernel
theorem d_Mo_keep_7 : decode prog_13_method_95_code 7 = .ok (.iload_n 2, 1) := by decide +kernel
theorem d_Mo_keep_8 : decode prog_13_method_95_code 8 = .ok (.iconst (-1), 1) := by decide +kernel
theorem d_Mo_keep_9 : decode prog_13_method_95_code 9 = .ok (.if_icmp .eq 13, 3) := by decide +kernel
theorem d_Mo_keep_12 : decode prog_13_method_95_code 12 = .ok (.aload_n 0, 1) := by decide +kernel
theorem d_Mo_keep_13 : decode prog_13_method_95_code 13 = .ok (.iload_n 2, 1) := by decide +kernel
theorem d_Mo_keep_14 : decode prog_13_method_95_code 14 = .ok (.invokevirtual 391, 3) := by decide +kernel
theorem d_Mo_keep_17 : decode prog_13_method_95_code 17 = .ok (.ifCond .ne 5, 3) := by decide +kernel
theorem d_Mo_keep_20 : decode prog_13_method_95_code 20 = .ok (.iconst (-1), 1) := by decide +kernel
theorem d_Mo_keep_21 : decode prog_13_method_95_code 21 = .ok (.ireturn, 1) := by decide +kernel
theorem d_Mo_keep_22 : decode prog_13_method_95_code 22 = .ok (.aload_n 0, 1) := by decide +kernel
theorem d_Mo_keep_23 : decode prog_13_method_95_code 23 = .ok (.getfield 101, 3) := by decide +kernel
theorem d_Mo_keep_26 : decode prog_13_method_95_code 26 = .ok (.iload_n 1, 1) := by decide +kernel
theorem d_Mo_keep_27 : decode prog_13_method_95_code 27 = .ok (.iload_n 2, 1) := by decide +kernel
theorem d_Mo_keep_28 : decode prog_13_method_95_code 28 = .ok (.iastore, 1) := by decide +kernel
theorem d_Mo_keep_29 : decode prog_13_method_95_code 29 = .ok (.iconst 1, 1) := by decide +kernel
theorem d_Mo_keep_30 : decode prog_13_method_95_code 30 = .ok (.ireturn, 1) := by decide +kernel
def f_Mo_keep  (p1 : Int32) (p2 : Int32) (x_o_bodies : Int32) (x_o_holds : Nat → Int32) : Option (Int32 × (Nat → Int32)) :=
  (f_Mo_isShelf  p1).bind fun r1 =>
  if r1 = true then
    (if p2 = (-1 : Int32) then
      (if p1 < 0 ∨ 6 ≤ Int32.toNatClampNeg p1 then none else
      some ((1 : Int32), (upd x_o_holds (Int32.toNatClampNeg p1) p2)))
    else
      ((f_Mo_isBody  p2 x_o_bodies).bind fun r3 =>
      if r3 = true then
        (if p1 < 0 ∨ 6 ≤ Int32.toNatClampNeg p1 then none else
        some ((1 : Int32), (upd x_o_holds (Int32.toNatClampNeg p1) p2)))
      else
        (some ((-1 : Int32), x_o_holds))))
  else
    (some ((-1 : Int32), x_o_holds))
set_option maxRecDepth 20000 in
theorem c_Mo_keep {l : Launch} {D : va_G} {dA : Nat → ClassId} {a_o a_o_had a_o_told a_o_barred a_o_cost a_o_last a_o_often a_o_changeOf a_o_changeAt a_o_before a_o_behind a_o_tape a_o_act a_o_with a_o_lineMany a_o_testEnd a_o_lineEnd a_o_facts a_o_pile a_o_way a_o_bestWay a_o_wasHad a_o_wasLast a_o_keptHad a_o_keptTold a_o_keptLast a_o_keptOften a_o_kind a_o_traced a_o_holds a_o_size a_o_elements a_o_shifted : Nat} {x_o_code : Int32} {x_o_lamps : Int32} {x_o_at : Int32} {x_o_night : Int32} {x_o_spent : Int32} {x_o_rest : Int32} {x_o_shy : Int32} {x_o_hasBegun : Bool} {x_o_doneMany : Int32} {x_o_undoneMany : Int32} {x_o_taped : Int32} {x_o_here : Int32} {x_o_fault : Int32} {x_o_open : Int32} {x_o_laid : Int32} {x_o_hasLaw : Bool} {x_o_bestMany : Int32} {x_o_wasAt : Int32} {x_o_wasNight : Int32} {x_o_hasImage : Bool} {x_o_keptLamps : Int32} {x_o_keptAt : Int32} {x_o_keptNight : Int32} {x_o_keptSpent : Int32} {x_o_traces : Int32} {p1 : Int32} {p2 : Int32} {x_o_bodies : Int32} {x_o_holds : Nat → Int32} {r0 : Int32} {o_x_o_holds : Nat → Int32}   (hf : f_Mo_keep  p1 p2 x_o_bodies x_o_holds = some (r0, o_x_o_holds)) : CT l y_Mo_keep prog_13_method_95_code 3 (some .int) { frames := 2, cells := 0, slots := 0, locals := 43 } D dA [.ref a_o, .int p1, .int p2] [O_Mo a_o x_o_code x_o_lamps x_o_at x_o_night x_o_spent x_o_rest x_o_shy a_o_had a_o_told a_o_barred a_o_cost a_o_last a_o_often x_o_hasBegun x_o_doneMany x_o_undoneMany a_o_changeOf a_o_changeAt a_o_before a_o_behind a_o_tape x_o_taped x_o_here x_o_fault x_o_open x_o_laid a_o_act a_o_with a_o_lineMany a_o_testEnd a_o_lineEnd a_o_facts a_o_pile x_o_hasLaw a_o_way a_o_bestWay x_o_bestMany a_o_wasHad a_o_wasLast x_o_wasAt x_o_wasNight x_o_hasImage x_o_keptLamps x_o_keptAt x_o_keptNight x_o_keptSpent a_o_keptHad a_o_keptTold a_o_keptLast a_o_keptOften x_o_bodies a_o_kind x_o_traces a_o_traced a_o_holds a_o_size a_o_elements a_o_shifted, A_I dA a_o_holds 6 x_o_holds] (some (.int r0)) (fun _ : Unit => [O_Mo a_o x_o_code x_o_lamps x_o_at x_o_night x_o_spent x_o_rest x_o_shy a_o_had a_o_told a_o_barred a_o_cost a_o_last a_o_often x_o_hasBegun x_o_doneMany x_o_undoneMany a_o_changeOf a_o_changeAt a_o_before a_o_behind a_o_tape x_o_taped x_o_here x_o_fault x_o_open x_o_laid a_o_act a_o_with a_o_lineMany a_o_testEnd a_o_lineEnd a_o_facts a_o_pile x_o_hasLaw a_o_way a_o_bestWay x_o_bestMany a_o_wasHad a_o_wasLast x_o_wasAt x_o_wasNight x_o_hasImage x_o_keptLamps x_o_keptAt x_o_keptNight x_o_keptSpent a_o_keptHad a_o_keptTold a_o_keptLast a_o_keptOften x_o_bodies a_o_kind x_o_traces a_o_traced a_o_holds a_o_size a_o_elements a_o_shifted, A_I dA a_o_holds 6 o_x_o_holds]) := by
  refine ct_intro "OneLampModel" rfl (by decide +kernel) (Nat.le_of_ble_eq_true rfl) [(0, .ref a_o), (1, .int p1), (2, .int p2)] rfl (fun _ C => ?_)
  unfold f_Mo_keep at hf
  refine g_iload_n (pc' := 1) C 1 d_Mo_keep_0 rfl rfl ?_
  replace hf := g_bi hf; obtain ⟨r1, hc2, hf⟩ := hf
  refine g_callS (pc' := 4) (st1 := [.int (b2i r1)]) (ws1 := [O_Mo a_o x_o_code x_o_lamps x_o_at x_o_night x_o_spent x_o_rest x_o_shy a_o_had a_o_told a_o_barred a_o_cost a_o_last a_o_often x_o_hasBegun x_o_doneMany x_o_undoneMany a_o_changeOf a_o_changeAt a_o_before a_o_behind a_o_tape x_o_taped x_o_here x_o_fault x_o_open x_o_laid a_o_act a_o_with a_o_lineMany a_o_testEnd a_o_lineEnd a_o_facts a_o_pile x_o_hasLaw a_o_way a_o_bestWay x_o_bestMany a_o_wasHad a_o_wasLast x_o_wasAt x_o_wasNight x_o_hasImage x_o_keptLamps x_o_keptAt x_o_keptNight x_o_keptSpent a_o_keptHad a_o_keptTold a_o_keptLast a_o_keptOften x_o_bodies a_o_kind x_o_traces a_o_traced a_o_holds a_o_size a_o_elements a_o_shifted, A_I dA a_o_holds 6 x_o_holds]) C (c_Mo_isShelf (l := l) (D := D) (dA := dA)    hc2) yy_Mo_isShelf mw_5_107 d_Mo_keep_1 rfl [] rfl rfl (Nat.le_of_ble_eq_true rfl) ⟨Nat.le_of_ble_eq_true rfl, Nat.le_of_ble_eq_true rfl⟩ rfl rfl (Nat.zero_le _) (Nat.zero_le _) [] rfl (by decide +kernel) rfl (g_lay_sel _ _ _ _ [(0, false), (1, false)] (by decide +kernel) rfl (by decide +kernel) rfl rfl) rfl ?_
  refine g_if_eqb (pc' := 7) (tgt := 20) C d_Mo_keep_4 rfl rfl (fun h => ?_) (fun h => ?_)
  · replace hf := g_bf h hf
    refine g_iconst (pc' := 21) (v := (-1)) C d_Mo_keep_20 rfl rfl ?_
    replace hf := g_o2 hf; obtain ⟨h1, hf⟩ := hf; subst h1
    replace hf := Option.some.inj hf; subst hf
    exact g_iret C d_Mo_keep_21 () rfl
  · replace hf := g_bt h hf
    refine g_iload_n (pc' := 8) C 2 d_Mo_keep_7 rfl rfl ?_
    refine g_iconst (pc' := 9) (v := (-1)) C d_Mo_keep_8 rfl rfl ?_
    refine g_icmp_eq (pc' := 12) (tgt := 22) C d_Mo_keep_9 rfl rfl (fun h => ?_) (fun h => ?_)
    · replace hf := g_ip h hf
      refine g_aload_n (pc' := 23) C 0 d_Mo_keep_22 rfl rfl ?_
      refine g_get (pc' := 26) C kf_Mo 54 mw_4_192 d_Mo_keep_23 rfl 0 rfl (by decide) rfl ?_
      refine g_iload_n (pc' := 27) C 1 d_Mo_keep_26 rfl rfl ?_
      refine g_iload_n (pc' := 28) C 2 d_Mo_keep_27 rfl rfl ?_
      have hb := g_ck hf
      replace hf := g_in hb hf
      refine g_iast (pc' := 29) (ws' := [O_Mo a_o x_o_code x_o_lamps x_o_at x_o_night x_o_spent x_o_rest x_o_shy a_o_had a_o_told a_o_barred a_o_cost a_o_last a_o_often x_o_hasBegun x_o_doneMany x_o_undoneMany a_o_changeOf a_o_changeAt a_o_before a_o_behind a_o_tape x_o_taped x_o_here x_o_fault x_o_open x_o_laid a_o_act a_o_with a_o_lineMany a_o_testEnd a_o_lineEnd a_o_facts a_o_pile x_o_hasLaw a_o_way a_o_bestWay x_o_bestMany a_o_wasHad a_o_wasLast x_o_wasAt x_o_wasNight x_o_hasImage x_o_keptLamps x_o_keptAt x_o_keptNight x_o_keptSpent a_o_keptHad a_o_keptTold a_o_keptLast a_o_keptOften x_o_bodies a_o_kind x_o_traces a_o_traced a_o_holds a_o_size a_o_elements a_o_shifted, A_I dA a_o_holds 6 (upd x_o_holds (Int32.toNatClampNeg p1) p2)]) C d_Mo_keep_28 rfl 1 rfl hb rfl ?_
      refine g_iconst (pc' := 30) (v := 1) C d_Mo_keep_29 rfl rfl ?_
      replace hf := g_o2 hf; obtain ⟨h1, hf⟩ := hf; subst h1
      replace hf := Option.some.inj hf; subst hf
      exact g_iret C d_Mo_keep_30 () rfl
    · replace hf := g_in h hf
      refine g_aload_n (pc' := 13) C 0 d_Mo_keep_12 rfl rfl ?_
      refine g_iload_n (pc' := 14) C 2 d_Mo_keep_13 rfl rfl ?_
      replace hf := g_bi hf; obtain ⟨r3, hc4, hf⟩ := hf
      refine g_callV (pc' := 17) (st1 := [.int (b2i r3)]) (ws1 := [O_Mo a_o x_o_code x_o_lamps x_o_at x_o_night x_o_spent x_o_rest x_o_shy a_o_had a_o_told a_o_barred a_o_cost a_o_last a_o_often x_o_hasBegun x_o_doneMany x_o_undoneMany a_o_changeOf a_o_changeAt a_o_before a_o_behind a_o_tape x_o_taped x_o_here x_o_fault x_o_open x_o_laid a_o_act a_o_with a_o_lineMany a_o_testEnd a_o_lineEnd a_o_facts a_o_pile x_o_hasLaw a_o_way a_o_bestWay x_o_bestMany a_o_wasHad a_o_wasLast x_o_wasAt x_o_wasNight x_o_hasImage x_o_keptLamps x_o_keptAt x_o_keptNight x_o_keptSpent a_o_keptHad a_o_keptTold a_o_keptLast a_o_keptOften x_o_bodies a_o_kind x_o_traces a_o_traced a_o_holds a_o_size a_o_elements a_o_shifted, A_I dA a_o_holds 6 x_o_holds]) C (c_Mo_isBody (l := l) (D := D) (dA := dA) (a_o := a_o) (a_o_had := a_o_had) (a_o_told := a_o_told) (a_o_barred := a_o_barred) (a_o_cost := a_o_cost) (a_o_last := a_o_last) (a_o_often := a_o_often) (a_o_changeOf := a_o_changeOf) (a_o_changeAt := a_o_changeAt) (a_o_before := a_o_before) (a_o_behind := a_o_behind) (a_o_tape := a_o_tape) (a_o_act := a_o_act) (a_o_with := a_o_with) (a_o_lineMany := a_o_lineMany) (a_o_testEnd := a_o_testEnd) (a_o_lineEnd := a_o_lineEnd) (a_o_facts := a_o_facts) (a_o_pile := a_o_pile) (a_o_way := a_o_way) (a_o_bestWay := a_o_bestWay) (a_o_wasHad := a_o_wasHad) (a_o_wasLast := a_o_wasLast) (a_o_keptHad := a_o_keptHad) (a_o_keptTold := a_o_keptTold) (a_o_keptLast := a_o_keptLast) (a_o_keptOften := a_o_keptOften) (a_o_kind := a_o_kind) (a_o_traced := a_o_traced) (a_o_holds := a_o_holds) (a_o_size := a_o_size) (a_o_elements := a_o_elements) (a_o_shifted := a_o_shifted) (x_o_code := x_o_code) (x_o_lamps := x_o_lamps) (x_o_at := x_o_at) (x_o_night := x_o_night) (x_o_spent := x_o_spent) (x_o_rest := x_o_rest) (x_o_shy := x_o_shy) (x_o_hasBegun := x_o_hasBegun) (x_o_doneMany := x_o_doneMany) (x_o_undoneMany := x_o_undoneMany) (x_o_taped := x_o_taped) (x_o_here := x_o_here) (x_o_fault := x_o_fault) (x_o_open := x_o_open) (x_o_laid := x_o_laid) (x_o_hasLaw := x_o_hasLaw) (x_o_bestMany := x_o_bestMany) (x_o_wasAt := x_o_wasAt) (x_o_wasNight := x_o_wasNight) (x_o_hasImage := x_o_hasImage) (x_o_keptLamps := x_o_keptLamps) (x_o_keptAt := x_o_keptAt) (x_o_keptNight := x_o_keptNight) (x_o_keptSpent := x_o_keptSpent) (x_o_traces := x_o_traces)   hc4) yy_Mo_isBody kf_Mo rfl mw_6_135 d_Mo_keep_14 rfl [] rfl rfl (Nat.le_of_ble_eq_true rfl) ⟨Nat.le_of_ble_eq_true rfl, Nat.le_of_ble_eq_true rfl⟩ rfl rfl (Nat.zero_le _) (Nat.zero_le _) 0 rfl [0] rfl (by decide +kernel) rfl (g_lay_sel _ _ _ _ [(0, true), (1, false)] (by decide +kernel) rfl (by decide +kernel) rfl rfl) rfl ?_
      refine g_if_neb (pc' := 20) (tgt := 22) C d_Mo_keep_17 rfl rfl (fun h => ?_) (fun h => ?_)
      · replace hf := g_bt h hf
        refine g_aload_n (pc' := 23) C 0 d_Mo_keep_22 rfl rfl ?_
        refine g_get (pc' := 26) C kf_Mo 54 mw_4_192 d_Mo_keep_23 rfl 0 rfl (by decide) rfl ?_
        refine g_iload_n (pc' := 27) C 1 d_Mo_keep_26 rfl rfl ?_
        refine g_iload_n (pc' := 28) C 2 d_Mo_keep_27 rfl rfl ?_
        have hb := g_ck hf
        replace hf := g_in hb hf
        refine g_iast (pc' := 29) (ws' := [O_Mo a_o x_o_code x_o_lamps x_o_at x_o_night x_o_spent x_o_rest x_o_shy a_o_had a_o_told a_o_barred a_o_cost a_o_last a_o_often x_o_hasBegun x_o_doneMany x_o_undoneMany a_o_changeOf a_o_changeAt a_o_before a_o_behind a_o_tape x_o_taped x_o_here x_o_fault x_o_open x_o_laid a_o_act a_o_with a_o_lineMany a_o_testEnd a_o_lineEnd a_o_facts a_o_pile x_o_hasLaw a_o_way a_o_bestWay x_o_bestMany a_o_wasHad a_o_wasLast x_o_wasAt x_o_wasNight x_o_hasImage x_o_keptLamps x_o_keptAt x_o_keptNight x_o_keptSpent a_o_keptHad a_o_keptTold a_o_keptLast a_o_keptOften x_o_bodies a_o_kind x_o_traces a_o_traced a_o_holds a_o_size a_o_elements a_o_shifted, A_I dA a_o_holds 6 (upd x_o_holds (Int32.toNatClampNeg p1) p2)]) C d_Mo_keep_28 rfl 1 rfl hb rfl ?_
        refine g_iconst (pc' := 30) (v := 1) C d_Mo_keep_29 rfl rfl ?_
        replace hf := g_o2 hf; obtain ⟨h1, hf⟩ := hf; subst h1
        replace hf := Option.some.inj hf; subst hf
        exact g_iret C d_Mo_keep_30 () rfl
      · replace hf := g_bf h hf
        refine g_iconst (pc' := 21) (v := (-1)) C d_Mo_keep_20 rfl rfl ?_
        replace hf := g_o2 hf; obtain ⟨h1, hf⟩ := hf; subst h1
        replace hf := Option.some.inj hf; subst hf
        exact g_iret C d_Mo_keep_21 () rfl
def y_Mo_row : MethodName := ⟨"OneLampModel", "row", "(III)I"⟩
theorem yy_Mo_row : YV y_Mo_row prog_13_method_96_code 5 (some .int) 3 := ⟨mw_6_205, mw_1_12, mw_6_203, mw_6_204, by decide +kernel, by decide +kernel, by decide +kernel⟩
theorem d_Mo_row_0 : decode prog_13_method_96_code 0 = .ok (.iload_n 1, 1) := by decide +kernel
theorem d_Mo_row_1 : decode prog_13_method_96_code 1 = .ok (.invokestatic 146, 3) := by decide +kernel
theorem d_Mo_row_4 : decode prog_13_method_96_code 4 = .ok (.ifCond .eq 18, 3) := by decide +kernel
theorem d_Mo_row_7 : decode prog_13_method_96_code 7 = .ok (.iload_n 2, 1) := by decide +kernel
theorem d_Mo_row_8 : decode prog_13_method_96_code 8 = .ok (.iconst 0, 1) := by decide +kernel
theorem d_Mo_row_9 : decode prog_13_method_96_code 9 = .ok (.iconst 4, 1) := by decide +kernel
theorem d_Mo_row_10 : decode prog_13_method_96_code 10 = .ok (.invokestatic 121, 3) := by decide +kernel
theorem d_Mo_row_13 : decode prog_13_method_96_code 13 = .ok (.ifCond .eq 9, 3) := by decide +kernel
theorem d_Mo_row_16 : decode prog_13_method_96_code 16 = .ok (.iload_n 3, 1) := by decide +kernel
theorem d_Mo_row_17 : decode prog_13_method_96_code 17 = .ok (.bipush 60, 2) := by decide +kernel
theorem d_Mo_row_19 : decode prog_13_method_96_code 19 = .ok (.if_icmp .le 5, 3) := by decide +kernel
theorem d_Mo_row_22 : decode prog_13_method_96_code 22 = .ok (.iconst (-1), 1) := by decide +kernel
theorem d_Mo_row_23 : decode prog_13_method_96_code 23 = .ok (.ireturn, 1) := by decide +kernel
theorem d_Mo_row_24 : decode prog_13_method_96_code 24 = .ok (.iload_n 3, 1) := by decide +kernel
theorem d_Mo_row_25 : decode prog_13_method_96_code 25 = .ok (.ifCond .ge 6, 3) := by decide +kernel
theorem d_Mo_row_28 : decode prog_13_method_96_code 28 = .ok (.bipush (-14), 2) := by decide +kernel
theorem d_Mo_row_30 : decode prog_13_method_96_code 30 = .ok (.ireturn, 1) := by decide +kernel
theorem d_Mo_row_31 : decode prog_13_method_96_code 31 = .ok (.aload_n 0, 1) := by decide +kernel
theorem d_Mo_row_32 : decode prog_13_method_96_code 32 = .ok (.getfield 101, 3) := by decide +kernel
theorem d_Mo_row_35 : decode prog_13_method_96_code 35 = .ok (.iload_n 1, 1) := by decide +kernel
theorem d_Mo_row_36 : decode prog_13_method_96_code 36 = .ok (.bipush (-2), 2) := by decide +kernel
theorem d_Mo_row_38 : decode prog_13_method_96_code 38 = .ok (.iload_n 2, 1) := by decide +kernel
theorem d_Mo_row_39 : decode prog_13_method_96_code 39 = .ok (.isub, 1) := by decide +kernel
theorem d_Mo_row_40 : decode prog_13_method_96_code 40 = .ok (.iastore, 1) := by decide +kernel
theorem d_Mo_row_41 : decode prog_13_method_96_code 41 = .ok (.aload_n 0, 1) := by decide +kernel
theorem d_Mo_row_42 : decode prog_13_method_96_code 42 = .ok (.getfield 104, 3) := by decide +kernel
theorem d_Mo_row_45 : decode prog_13_method_96_code 45 = .ok (.iload_n 1, 1) := by decide +kernel
theorem d_Mo_row_46 : decode prog_13_method_96_code 46 = .ok (.iload_n 3, 1) := by decide +kernel
theorem d_Mo_row_47 : decode prog_13_method_96_code 47 = .ok (.iastore, 1) := by decide +kernel
theorem d_Mo_row_48 : decode prog_13_method_96_code 48 = .ok (.bipush 60, 2) := by decide +kernel
theorem d_Mo_row_50 : decode prog_13_method_96_code 50 = .ok (.iload_n 1, 1) := by decide +kernel
theorem d_Mo_row_51 : decode prog_13_method_96_code 51 = .ok (.imul, 1) := by decide +kernel
theorem d_Mo_row_52 : decode prog_13_method_96_code 52 = .ok (.istore 4, 2) := by decide +kernel
theorem d_Mo_row_54 : decode prog_13_method_96_code 54 = .ok (.iload 4, 2) := by decide +kernel
theorem d_Mo_row_56 : decode prog_13_method_96_code 56 = .ok (.bipush 60, 2) := by decide +kernel
theorem d_Mo_row_58 : decode prog_13_method_96_code 58 = .ok (.iload_n 1, 1) := by decide +kernel
theorem d_Mo_row_59 : decode prog_13_method_96_code 59 = .ok (.imul, 1) := by decide +kernel
theorem d_Mo_row_60 : decode prog_13_method_96_code 60 = .ok (.bipush 60, 2) := by decide +kernel
theorem d_Mo_row_62 : decode prog_13_method_96_code 62 = .ok (.iadd, 1) := by decide +kernel
theorem d_Mo_row_63 : decode prog_13_method_96_code 63 = .ok (.if_icmp .ge 17, 3) := by decide +kernel
theorem d_Mo_row_66 : decode prog_13_method_96_code 66 = .ok (.aload_n 0, 1) := by decide +kernel
theorem d_Mo_row_67 : decode prog_13_method_96_code 67 = .ok (.getfield 107, 3) := by decide +kernel
theorem d_Mo_row_70 : decode prog_13_method_96_code 70 = .ok (.iload 4, 2) := by decide +kernel
theorem d_Mo_row_72 : decode prog_13_method_96_code 72 = .ok (.lconst 0, 1) := by decide +kernel
theorem d_Mo_row_73 : decode prog_13_method_96_code 73 = .ok (.lastore, 1) := by decide +kernel
theorem d_Mo_row_74 : decode prog_13_method_96_code 74 = .ok (.iinc 4 1, 3) := by decide +kernel
theorem d_Mo_row_77 : decode prog_13_method_96_code 77 = .ok (.goto (-23), 3) := by decide +kernel
theorem d_Mo_row_80 : decode prog_13_method_96_code 80 = .ok (.iconst 1, 1) := by decide +kernel
theorem d_Mo_row_81 : decode prog_13_method_96_code 81 = .ok (.ireturn, 1) := by decide +kernel
def f_Mo_row_L54   : Nat → Int32 → Int32 → (Nat → Int32) → (Nat → Int32) → (Nat → Int64) → Option (Int32 × (Nat → Int32) × (Nat → Int32) × (Nat → Int64))
  | 0, _, _, _, _, _ => none
  | n + 1, v1, v4, x_o_holds, x_o_size, x_o_elements =>
    if (((60 : Int32) * v1) + (60 : Int32)) ≤ v4 then
      (some ((1 : Int32), x_o_holds, x_o_size, x_o_elements))
    else
      (if v4 < 0 ∨ 360 ≤ Int32.toNatClampNeg v4 then none else
      f_Mo_row_L54  n v1 (v4 + 1) x_o_holds x_o_size (vp_updL x_o_elements (Int32.toNatClampNeg v4) (0 : Int64)))
set_option maxRecDepth 20000 in
theorem w_Mo_row_L54 {p : Program} {l : Launch} {e : Env} {s : State} {m : MethodId} {args : Array Value} {below : List Frame} {meth : Method} {c : Code} {D : va_G} {dA : Nat → ClassId} {A : Nat → Prop} (C : GC p s m args meth c prog_13_method_96_code 5 "OneLampModel" (some .int) D dA A) {a_o a_o_had a_o_told a_o_barred a_o_cost a_o_last a_o_often a_o_changeOf a_o_changeAt a_o_before a_o_behind a_o_tape a_o_act a_o_with a_o_lineMany a_o_testEnd a_o_lineEnd a_o_facts a_o_pile a_o_way a_o_bestWay a_o_wasHad a_o_wasLast a_o_keptHad a_o_keptTold a_o_keptLast a_o_keptOften a_o_kind a_o_traced a_o_holds a_o_size a_o_elements a_o_shifted : Nat} {x_o_code : Int32} {x_o_lamps : Int32} {x_o_at : Int32} {x_o_night : Int32} {x_o_spent : Int32} {x_o_rest : Int32} {x_o_shy : Int32} {x_o_hasBegun : Bool} {x_o_doneMany : Int32} {x_o_undoneMany : Int32} {x_o_taped : Int32} {x_o_here : Int32} {x_o_fault : Int32} {x_o_open : Int32} {x_o_laid : Int32} {x_o_hasLaw : Bool} {x_o_bestMany : Int32} {x_o_wasAt : Int32} {x_o_wasNight : Int32} {x_o_hasImage : Bool} {x_o_keptLamps : Int32} {x_o_keptAt : Int32} {x_o_keptNight : Int32} {x_o_keptSpent : Int32} {x_o_bodies : Int32} {x_o_traces : Int32} {r0 : Int32} {o_x_o_holds : Nat → Int32} {o_x_o_size : Nat → Int32} {o_x_o_elements : Nat → Int64}    : ∀ (n : Nat) (v1 : Int32) (v4 : Int32) (x_o_holds : Nat → Int32) (x_o_size : Nat → Int32) (x_o_elements : Nat → Int64), f_Mo_row_L54   n v1 v4 x_o_holds x_o_size x_o_elements = some (r0, o_x_o_holds, o_x_o_size, o_x_o_elements) → GG p l e { frames := 2, cells := 0, slots := 0, locals := 42 } s m args below meth c 5 D A 0 0 (MQ below (cQ D A (some (.int r0)) (fun _ : Unit => [O_Mo a_o x_o_code x_o_lamps x_o_at x_o_night x_o_spent x_o_rest x_o_shy a_o_had a_o_told a_o_barred a_o_cost a_o_last a_o_often x_o_hasBegun x_o_doneMany x_o_undoneMany a_o_changeOf a_o_changeAt a_o_before a_o_behind a_o_tape x_o_taped x_o_here x_o_fault x_o_open x_o_laid a_o_act a_o_with a_o_lineMany a_o_testEnd a_o_lineEnd a_o_facts a_o_pile x_o_hasLaw a_o_way a_o_bestWay x_o_bestMany a_o_wasHad a_o_wasLast x_o_wasAt x_o_wasNight x_o_hasImage x_o_keptLamps x_o_keptAt x_o_keptNight x_o_keptSpent a_o_keptHad a_o_keptTold a_o_keptLast a_o_keptOften x_o_bodies a_o_kind x_o_traces a_o_traced a_o_holds a_o_size a_o_elements a_o_shifted, A_I dA a_o_holds 6 o_x_o_holds, A_I dA a_o_size 6 o_x_o_size, A_J dA a_o_elements 360 o_x_o_elements])) args s 0 0 A) 54 [(0, .ref a_o), (1, .int v1), (4, .int v4)] [] [O_Mo a_o x_o_code x_o_lamps x_o_at x_o_night x_o_spent x_o_rest x_o_shy a_o_had a_o_told a_o_barred a_o_cost a_o_last a_o_often x_o_hasBegun x_o_doneMany x_o_undoneMany a_o_changeOf a_o_changeAt a_o_before a_o_behind a_o_tape x_o_taped x_o_here x_o_fault x_o_open x_o_laid a_o_act a_o_with a_o_lineMany a_o_testEnd a_o_lineEnd a_o_facts a_o_pile x_o_hasLaw a_o_way a_o_bestWay x_o_bestMany a_o_wasHad a_o_wasLast x_o_wasAt x_o_wasNight x_o_hasImage x_o_keptLamps x_o_keptAt x_o_keptNight x_o_keptSpent a_o_keptHad a_o_keptTold a_o_keptLast a_o_keptOften x_o_bodies a_o_kind x_o_traces a_o_traced a_o_holds a_o_size a_o_elements a_o_shifted, A_I dA a_o_holds 6 x_o_holds, A_I dA a_o_size 6 x_o_size, A_J dA a_o_elements 360 x_o_elements] := by
  intro n
  induction n with
  | zero =>
    intro v1 v4 x_o_holds x_o_size x_o_elements hf
    cases hf
  | succ n ih =>
    intro v1 v4 x_o_holds x_o_size x_o_elements hf
    unfold f_Mo_row_L54 at hf
    refine g_iload (pc' := 56) C 2 d_Mo_row_54 rfl rfl ?_
    refine g_bipush (pc' := 58) (v := 60) C d_Mo_row_56 rfl rfl ?_
    refine g_iload_n (pc' := 59) C 1 d_Mo_row_58 rfl rfl ?_
    refine g_imul (pc' := 60) C d_Mo_row_59 rfl ?_
    refine g_bipush (pc' := 62) (v := 60) C d_Mo_row_60 rfl rfl ?_
    refine g_iadd (pc' := 63) C d_Mo_row_62 rfl ?_
    refine g_icmp_ge (pc' := 66) (tgt := 80) C d_Mo_row_63 rfl rfl (fun h => ?_) (fun h => ?_)
    · replace hf := g_ip h hf
      refine g_iconst (pc' := 81) (v := 1) C d_Mo_row_80 rfl rfl ?_
      replace hf := g_o2 hf; obtain ⟨h1, hf⟩ := hf; subst h1
      replace hf := g_o2 hf; obtain ⟨h1, hf⟩ := hf; subst h1
      replace hf := g_o2 hf; obtain ⟨h1, hf⟩ := hf; subst h1
      replace hf := Option.some.inj hf; subst hf
      exact g_iret C d_Mo_row_81 () rfl
    · replace hf := g_in h hf
      refine g_aload_n (pc' := 67) C 0 d_Mo_row_66 rfl rfl ?_
      refine g_get (pc' := 70) C kf_Mo 56 mw_4_194 d_Mo_row_67 rfl 0 rfl (by decide) rfl ?_
      refine g_iload (pc' := 72) C 2 d_Mo_row_70 rfl rfl ?_
      refine g_lconst (pc' := 73) (v := 0) C d_Mo_row_72 rfl rfl ?_
      have hb := g_ck hf
      replace hf := g_in hb hf
      refine g_last (pc' := 74) (ws' := [O_Mo a_o x_o_code x_o_lamps x_o_at x_o_night x_o_spent x_o_rest x_o_shy a_o_had a_o_told a_o_barred a_o_cost a_o_last a_o_often x_o_hasBegun x_o_doneMany x_o_undoneMany a_o_changeOf a_o_changeAt a_o_before a_o_behind a_o_tape x_o_taped x_o_here x_o_fault x_o_open x_o_laid a_o_act a_o_with a_o_lineMany a_o_testEnd a_o_lineEnd a_o_facts a_o_pile x_o_hasLaw a_o_way a_o_bestWay x_o_bestMany a_o_wasHad a_o_wasLast x_o_wasAt x_o_wasNight x_o_hasImage x_o_keptLamps x_o_keptAt x_o_keptNight x_o_keptSpent a_o_keptHad a_o_keptTold a_o_keptLast a_o_keptOften x_o_bodies a_o_kind x_o_traces a_o_traced a_o_holds a_o_size a_o_elements a_o_shifted, A_I dA a_o_holds 6 x_o_holds, A_I dA a_o_size 6 x_o_size, A_J dA a_o_elements 360 (vp_updL x_o_elements (Int32.toNatClampNeg v4) (0 : Int64))]) C d_Mo_row_73 rfl 3 rfl hb rfl ?_
      refine g_iinc (pc' := 77) (j := 2) (v := (v4 + 1)) (lv' := [(4, .int (v4 + 1)), (0, .ref a_o), (1, .int v1)]) C d_Mo_row_74 rfl rfl rfl (by decide) rfl ?_
      refine g_goto (tgt := 54) C d_Mo_row_77 rfl ?_
      refine g_lv (lv' := [(0, .ref a_o), (1, .int v1), (4, .int (v4 + 1))]) [1, 2, 0] rfl ?_
      exact ih v1 (v4 + 1) x_o_holds x_o_size (vp_updL x_o_elements (Int32.toNatClampNeg v4) (0 : Int64)) hf
def f_Mo_row  (p1 : Int32) (p2 : Int32) (p3 : Int32) (x_o_holds : Nat → Int32) (x_o_size : Nat → Int32) (x_o_elements : Nat → Int64) : Option (Int32 × (Nat → Int32) × (Nat → Int32) × (Nat → Int64)) :=
  (f_Mo_isShelf  p1).bind fun r1 =>
  if r1 = true then
    ((f_Mo_in  p2 (0 : Int32) (4 : Int32)).bind fun r3 =>
    if r3 = true then
      (if p3 ≤ (60 : Int32) then
        (if 0 ≤ p3 then
          (if p1 < 0 ∨ 6 ≤ Int32.toNatClampNeg p1 then none else
          if p1 < 0 ∨ 6 ≤ Int32.toNatClampNeg p1 then none else
          f_Mo_row_L54  3000 p1 ((60 : Int32) * p1) (upd x_o_holds (Int32.toNatClampNeg p1) ((-2 : Int32) - p2)) (upd x_o_size (Int32.toNatClampNeg p1) p3) x_o_elements)
        else
          (some ((-14 : Int32), x_o_holds, x_o_size, x_o_elements)))
      else
        (some ((-1 : Int32), x_o_holds, x_o_size, x_o_elements)))
    else
      (some ((-1 : Int32), x_o_holds, x_o_size, x_o_elements)))
  else
    (some ((-1 : Int32), x_o_holds, x_o_size, x_o_elements))
set_option maxRecDepth 20000 in
theorem c_Mo_row {l : Launch} {D : va_G} {dA : Nat → ClassId} {a_o a_o_had a_o_told a_o_barred a_o_cost a_o_last a_o_often a_o_changeOf a_o_changeAt a_o_before a_o_behind a_o_tape a_o_act a_o_with a_o_lineMany a_o_testEnd a_o_lineEnd a_o_facts a_o_pile a_o_way a_o_bestWay a_o_wasHad a_o_wasLast a_o_keptHad a_o_keptTold a_o_keptLast a_o_keptOften a_o_kind a_o_traced a_o_holds a_o_size a_o_elements a_o_shifted : Nat} {x_o_code : Int32} {x_o_lamps : Int32} {x_o_at : Int32} {x_o_night : Int32} {x_o_spent : Int32} {x_o_rest : Int32} {x_o_shy : Int32} {x_o_hasBegun : Bool} {x_o_doneMany : Int32} {x_o_undoneMany : Int32} {x_o_taped : Int32} {x_o_here : Int32} {x_o_fault : Int32} {x_o_open : Int32} {x_o_laid : Int32} {x_o_hasLaw : Bool} {x_o_bestMany : Int32} {x_o_wasAt : Int32} {x_o_wasNight : Int32} {x_o_hasImage : Bool} {x_o_keptLamps : Int32} {x_o_keptAt : Int32} {x_o_keptNight : Int32} {x_o_keptSpent : Int32} {x_o_bodies : Int32} {x_o_traces : Int32} {p1 : Int32} {p2 : Int32} {p3 : Int32} {x_o_holds : Nat → Int32} {x_o_size : Nat → Int32} {x_o_elements : Nat → Int64} {r0 : Int32} {o_x_o_holds : Nat → Int32} {o_x_o_size : Nat → Int32} {o_x_o_elements : Nat → Int64}   (hf : f_Mo_row  p1 p2 p3 x_o_holds x_o_size x_o_elements = some (r0, o_x_o_holds, o_x_o_size, o_x_o_elements)) : CT l y_Mo_row prog_13_method_96_code 5 (some .int) { frames := 2, cells := 0, slots := 0, locals := 42 } D dA [.ref a_o, .int p1, .int p2, .int p3] [O_Mo a_o x_o_code x_o_lamps x_o_at x_o_night x_o_spent x_o_rest x_o_shy a_o_had a_o_told a_o_barred a_o_cost a_o_last a_o_often x_o_hasBegun x_o_doneMany x_o_undoneMany a_o_changeOf a_o_changeAt a_o_before a_o_behind a_o_tape x_o_taped x_o_here x_o_fault x_o_open x_o_laid a_o_act a_o_with a_o_lineMany a_o_testEnd a_o_lineEnd a_o_facts a_o_pile x_o_hasLaw a_o_way a_o_bestWay x_o_bestMany a_o_wasHad a_o_wasLast x_o_wasAt x_o_wasNight x_o_hasImage x_o_keptLamps x_o_keptAt x_o_keptNight x_o_keptSpent a_o_keptHad a_o_keptTold a_o_keptLast a_o_keptOften x_o_bodies a_o_kind x_o_traces a_o_traced a_o_holds a_o_size a_o_elements a_o_shifted, A_I dA a_o_holds 6 x_o_holds, A_I dA a_o_size 6 x_o_size, A_J dA a_o_elements 360 x_o_elements] (some (.int r0)) (fun _ : Unit => [O_Mo a_o x_o_code x_o_lamps x_o_at x_o_night x_o_spent x_o_rest x_o_shy a_o_had a_o_told a_o_barred a_o_cost a_o_last a_o_often x_o_hasBegun x_o_doneMany x_o_undoneMany a_o_changeOf a_o_changeAt a_o_before a_o_behind a_o_tape x_o_taped x_o_here x_o_fault x_o_open x_o_laid a_o_act a_o_with a_o_lineMany a_o_testEnd a_o_lineEnd a_o_facts a_o_pile x_o_hasLaw a_o_way a_o_bestWay x_o_bestMany a_o_wasHad a_o_wasLast x_o_wasAt x_o_wasNight x_o_hasImage x_o_keptLamps x_o_keptAt x_o_keptNight x_o_keptSpent a_o_keptHad a_o_keptTold a_o_keptLast a_o_keptOften x_o_bodies a_o_kind x_o_traces a_o_traced a_o_holds a_o_size a_o_elements a_o_shifted, A_I dA a_o_holds 6 o_x_o_holds, A_I dA a_o_size 6 o_x_o_size, A_J dA a_o_elements 360 o_x_o_elements]) := by
  refine ct_intro "OneLampModel" rfl (by decide +kernel) (Nat.le_of_ble_eq_true rfl) [(0, .ref a_o), (1, .int p1), (2, .int p2), (3, .int p3)] rfl (fun _ C => ?_)
  unfold f_Mo_row at hf
  refine g_iload_n (pc' := 1) C 1 d_Mo_row_0 rfl rfl ?_
  replace hf := g_bi hf; obtain ⟨r1, hc2, hf⟩ := hf
  refine g_callS (pc' := 4) (st1 := [.int (b2i r1)]) (ws1 := [O_Mo a_o x_o_code x_o_lamps x_o_at x_o_night x_o_spent x_o_rest x_o_shy a_o_had a_o_told a_o_barred a_o_cost a_o_last a_o_often x_o_hasBegun x_o_doneMany x_o_undoneMany a_o_changeOf a_o_changeAt a_o_before a_o_behind a_o_tape x_o_taped x_o_here x_o_fault x_o_open x_o_laid a_o_act a_o_with a_o_lineMany a_o_testEnd a_o_lineEnd a_o_facts a_o_pile x_o_hasLaw a_o_way a_o_bestWay x_o_bestMany a_o_wasHad a_o_wasLast x_o_wasAt x_o_wasNight x_o_hasImage x_o_keptLamps x_o_keptAt x_o_keptNight x_o_keptSpent a_o_keptHad a_o_keptTold a_o_keptLast a_o_keptOften x_o_bodies a_o_kind x_o_traces a_o_traced a_o_holds a_o_size a_o_elements a_o_shifted, A_I dA a_o_holds 6 x_o_holds, A_I dA a_o_size 6 x_o_size, A_J dA a_o_elements 360 x_o_elements]) C (c_Mo_isShelf (l := l) (D := D) (dA := dA)    hc2) yy_Mo_isShelf mw_5_107 d_Mo_row_1 rfl [] rfl rfl (Nat.le_of_ble_eq_true rfl) ⟨Nat.le_of_ble_eq_true rfl, Nat.le_of_ble_eq_true rfl⟩ rfl rfl (Nat.zero_le _) (Nat.zero_le _) [] rfl (by decide +kernel) rfl (g_lay_sel _ _ _ _ [(0, false), (1, false), (2, false), (3, false)] (by decide +kernel) rfl (by decide +kernel) rfl rfl) rfl ?_
  refine g_if_eqb (pc' := 7) (tgt := 22) C d_Mo_row_4 rfl rfl (fun h => ?_) (fun h => ?_)
  · replace hf := g_bf h hf
    refine g_iconst (pc' := 23) (v := (-1)) C d_Mo_row_22 rfl rfl ?_
    replace hf := g_o2 hf; obtain ⟨h1, hf⟩ := hf; subst h1
    replace hf := g_o2 hf; obtain ⟨h1, hf⟩ := hf; subst h1
    replace hf := g_o2 hf; obtain ⟨h1, hf⟩ := hf; subst h1
    replace hf := Option.some.inj hf; subst hf
    exact g_iret C d_Mo_row_23 () rfl
  · replace hf := g_bt h hf
    refine g_iload_n (pc' := 8) C 2 d_Mo_row_7 rfl rfl ?_
    refine g_iconst (pc' := 9) (v := 0) C d_Mo_row_8 rfl rfl ?_
    refine g_iconst (pc' := 10) (v := 4) C d_Mo_row_9 rfl rfl ?_
    replace hf := g_bi hf; obtain ⟨r3, hc4, hf⟩ := hf
    refine g_callS (pc' := 13) (st1 := [.int (b2i r3)]) (ws1 := [O_Mo a_o x_o_code x_o_lamps x_o_at x_o_night x_o_spent x_o_rest x_o_shy a_o_had a_o_told a_o_barred a_o_cost a_o_last a_o_often x_o_hasBegun x_o_doneMany x_o_undoneMany a_o_changeOf a_o_changeAt a_o_before a_o_behind a_o_tape x_o_taped x_o_here x_o_fault x_o_open x_o_laid a_o_act a_o_with a_o_lineMany a_o_testEnd a_o_lineEnd a_o_facts a_o_pile x_o_hasLaw a_o_way a_o_bestWay x_o_bestMany a_o_wasHad a_o_wasLast x_o_wasAt x_o_wasNight x_o_hasImage x_o_keptLamps x_o_keptAt x_o_keptNight x_o_keptSpent a_o_keptHad a_o_keptTold a_o_keptLast a_o_keptOften x_o_bodies a_o_kind x_o_traces a_o_traced a_o_holds a_o_size a_o_elements a_o_shifted, A_I dA a_o_holds 6 x_o_holds, A_I dA a_o_size 6 x_o_size, A_J dA a_o_elements 360 x_o_elements]) C (c_Mo_in (l := l) (D := D) (dA := dA)    hc4) yy_Mo_in mw_5_80 d_Mo_row_10 rfl [] rfl rfl (Nat.le_of_ble_eq_true rfl) ⟨Nat.le_of_ble_eq_true rfl, Nat.le_of_ble_eq_true rfl⟩ rfl rfl (Nat.zero_le _) (Nat.zero_le _) [] rfl (by decide +kernel) rfl (g_lay_sel _ _ _ _ [(0, false), (1, false), (2, false), (3, false)] (by decide +kernel) rfl (by decide +kernel) rfl rfl) rfl ?_
    refine g_if_eqb (pc' := 16) (tgt := 22) C d_Mo_row_13 rfl rfl (fun h => ?_) (fun h => ?_)
    · replace hf := g_bf h hf
      refine g_iconst (pc' := 23) (v := (-1)) C d_Mo_row_22 rfl rfl ?_
      replace hf := g_o2 hf; obtain ⟨h1, hf⟩ := hf; subst h1
      replace hf := g_o2 hf; obtain ⟨h1, hf⟩ := hf; subst h1
      replace hf := g_o2 hf; obtain ⟨h1, hf⟩ := hf; subst h1
      replace hf := Option.some.inj hf; subst hf
      exact g_iret C d_Mo_row_23 () rfl
    · replace hf := g_bt h hf
      refine g_iload_n (pc' := 17) C 3 d_Mo_row_16 rfl rfl ?_
      refine g_bipush (pc' := 19) (v := 60) C d_Mo_row_17 rfl rfl ?_
      refine g_icmp_le (pc' := 22) (tgt := 24) C d_Mo_row_19 rfl rfl (fun h => ?_) (fun h => ?_)
      · replace hf := g_ip h hf
        refine g_iload_n (pc' := 25) C 3 d_Mo_row_24 rfl rfl ?_
        refine g_if_ge (pc' := 28) (tgt := 31) C d_Mo_row_25 rfl rfl (fun h => ?_) (fun h => ?_)
        · replace hf := g_ip h hf
          refine g_aload_n (pc' := 32) C 0 d_Mo_row_31 rfl rfl ?_
          refine g_get (pc' := 35) C kf_Mo 54 mw_4_192 d_Mo_row_32 rfl 0 rfl (by decide) rfl ?_
          refine g_iload_n (pc' := 36) C 1 d_Mo_row_35 rfl rfl ?_
          refine g_bipush (pc' := 38) (v := (-2)) C d_Mo_row_36 rfl rfl ?_
          refine g_iload_n (pc' := 39) C 2 d_Mo_row_38 rfl rfl ?_
          refine g_isub (pc' := 40) C d_Mo_row_39 rfl ?_
          have hb := g_ck hf
          replace hf := g_in hb hf
          refine g_iast (pc' := 41) (ws' := [O_Mo a_o x_o_code x_o_lamps x_o_at x_o_night x_o_spent x_o_rest x_o_shy a_o_had a_o_told a_o_barred a_o_cost a_o_last a_o_often x_o_hasBegun x_o_doneMany x_o_undoneMany a_o_changeOf a_o_changeAt a_o_before a_o_behind a_o_tape x_o_taped x_o_here x_o_fault x_o_open x_o_laid a_o_act a_o_with a_o_lineMany a_o_testEnd a_o_lineEnd a_o_facts a_o_pile x_o_hasLaw a_o_way a_o_bestWay x_o_bestMany a_o_wasHad a_o_wasLast x_o_wasAt x_o_wasNight x_o_hasImage x_o_keptLamps x_o_keptAt x_o_keptNight x_o_keptSpent a_o_keptHad a_o_keptTold a_o_keptLast a_o_keptOften x_o_bodies a_o_kind x_o_traces a_o_traced a_o_holds a_o_size a_o_elements a_o_shifted, A_I dA a_o_holds 6 (upd x_o_holds (Int32.toNatClampNeg p1) ((-2 : Int32) - p2)), A_I dA a_o_size 6 x_o_size, A_J dA a_o_elements 360 x_o_elements]) C d_Mo_row_40 rfl 1 rfl hb rfl ?_
          refine g_aload_n (pc' := 42) C 0 d_Mo_row_41 rfl rfl ?_
          refine g_get (pc' := 45) C kf_Mo 55 mw_4_193 d_Mo_row_42 rfl 0 rfl (by decide) rfl ?_
          refine g_iload_n (pc' := 46) C 1 d_Mo_row_45 rfl rfl ?_
          refine g_iload_n (pc' := 47) C 3 d_Mo_row_46 rfl rfl ?_
          have hb := g_ck hf
          replace hf := g_in hb hf
          refine g_iast (pc' := 48) (ws' := [O_Mo a_o x_o_code x_o_lamps x_o_at x_o_night x_o_spent x_o_rest x_o_shy a_o_had a_o_told a_o_barred a_o_cost a_o_last a_o_often x_o_hasBegun x_o_doneMany x_o_undoneMany a_o_changeOf a_o_changeAt a_o_before a_o_behind a_o_tape x_o_taped x_o_here x_o_fault x_o_open x_o_laid a_o_act a_o_with a_o_lineMany a_o_testEnd a_o_lineEnd a_o_facts a_o_pile x_o_hasLaw a_o_way a_o_bestWay x_o_bestMany a_o_wasHad a_o_wasLast x_o_wasAt x_o_wasNight x_o_hasImage x_o_keptLamps x_o_keptAt x_o_keptNight x_o_keptSpent a_o_keptHad a_o_keptTold a_o_keptLast a_o_keptOften x_o_bodies a_o_kind x_o_traces a_o_traced a_o_holds a_o_size a_o_elements a_o_shifted, A_I dA a_o_holds 6 (upd x_o_holds (Int32.toNatClampNeg p1) ((-2 : Int32) - p2)), A_I dA a_o_size 6 (upd x_o_size (Int32.toNatClampNeg p1) p3), A_J dA a_o_elements 360 x_o_elements]) C d_Mo_row_47 rfl 2 rfl hb rfl ?_
          refine g_bipush (pc' := 50) (v := 60) C d_Mo_row_48 rfl rfl ?_
          refine g_iload_n (pc' := 51) C 1 d_Mo_row_50 rfl rfl ?_
          refine g_imul (pc' := 52) C d_Mo_row_51 rfl ?_
          refine g_istore (pc' := 54) (lv' := [(4, .int ((60 : Int32) * p1)), (0, .ref a_o), (1, .int p1), (2, .int p2), (3, .int p3)]) C d_Mo_row_52 rfl (by decide) rfl ?_
          refine g_lv (lv' := [(0, .ref a_o), (1, .int p1), (4, .int ((60 : Int32) * p1))]) [1, 2, 0] rfl ?_
          exact w_Mo_row_L54 (a_o := a_o) (a_o_had := a_o_had) (a_o_told := a_o_told) (a_o_barred := a_o_barred) (a_o_cost := a_o_cost) (a_o_last := a_o_last) (a_o_often := a_o_often) (a_o_changeOf := a_o_changeOf) (a_o_changeAt := a_o_changeAt) (a_o_before := a_o_before) (a_o_behind := a_o_behind) (a_o_tape := a_o_tape) (a_o_act := a_o_act) (a_o_with := a_o_with) (a_o_lineMany := a_o_lineMany) (a_o_testEnd := a_o_testEnd) (a_o_lineEnd := a_o_lineEnd) (a_o_facts := a_o_facts) (a_o_pile := a_o_pile) (a_o_way := a_o_way) (a_o_bestWay := a_o_bestWay) (a_o_wasHad := a_o_wasHad) (a_o_wasLast := a_o_wasLast) (a_o_keptHad := a_o_keptHad) (a_o_keptTold := a_o_keptTold) (a_o_keptLast := a_o_keptLast) (a_o_keptOften := a_o_keptOften) (a_o_kind := a_o_kind) (a_o_traced := a_o_traced) (a_o_holds := a_o_holds) (a_o_size := a_o_size) (a_o_elements := a_o_elements) (a_o_shifted := a_o_shifted) C   3000 p1 ((60 : Int32) * p1) (upd x_o_holds (Int32.toNatClampNeg p1) ((-2 : Int32) - p2)) (upd x_o_size (Int32.toNatClampNeg p1) p3) x_o_elements hf
        · replace hf := g_in h hf
          refine g_bipush (pc' := 30) (v := (-14)) C d_Mo_row_28 rfl rfl ?_
          replace hf := g_o2 hf; obtain ⟨h1, hf⟩ := hf; subst h1
          replace hf := g_o2 hf; obtain ⟨h1, hf⟩ := hf; subst h1
          replace hf := g_o2 hf; obtain ⟨h1, hf⟩ := hf; subst h1
          replace hf := Option.some.inj hf; subst hf
          exact g_iret C d_Mo_row_30 () rfl
      · replace hf := g_in h hf
        refine g_iconst (pc' := 23) (v := (-1)) C d_Mo_row_22 rfl rfl ?_
        replace hf := g_o2 hf; obtain ⟨h1, hf⟩ := hf; subst h1
        replace hf := g_o2 hf; obtain ⟨h1, hf⟩ := hf; subst h1
        replace hf := g_o2 hf; obtain ⟨h1, hf⟩ := hf; subst h1
        replace hf := Option.some.inj hf; subst hf
        exact g_iret C d_Mo_row_23 () rfl
