def y_Mo_goesThrough : MethodName := ⟨"OneLampModel", "goesThrough", "(IIII)Z"⟩
theorem yy_Mo_goesThrough : YV y_Mo_goesThrough prog_13_method_71_code 7 (some .boolean) 4 := ⟨mw_6_114, mw_1_12, mw_6_113, tm_s (y := y_Mo_goesThrough) (n := 58) (by decide +kernel), by decide +kernel, by decide +kernel, by decide +kernel⟩
theorem d_Mo_goesThrough_0 : decode prog_13_method_71_code 0 = .ok (.iload 4, 2) := by decide +kernel
theorem d_Mo_goesThrough_2 : decode prog_13_method_71_code 2 = .ok (.aload_n 0, 1) := by decide +kernel
theorem d_Mo_goesThrough_3 : decode prog_13_method_71_code 3 = .ok (.invokevirtual 117, 3) := by decide +kernel
theorem d_Mo_goesThrough_6 : decode prog_13_method_71_code 6 = .ok (.iconst 1, 1) := by decide +kernel
theorem d_Mo_goesThrough_7 : decode prog_13_method_71_code 7 = .ok (.isub, 1) := by decide +kernel
theorem d_Mo_goesThrough_8 : decode prog_13_method_71_code 8 = .ok (.if_icmp .ne 14, 3) := by decide +kernel
theorem d_Mo_goesThrough_11 : decode prog_13_method_71_code 11 = .ok (.iload_n 1, 1) := by decide +kernel
theorem d_Mo_goesThrough_12 : decode prog_13_method_71_code 12 = .ok (.iload_n 2, 1) := by decide +kernel
theorem d_Mo_goesThrough_13 : decode prog_13_method_71_code 13 = .ok (.if_icmp .ne 7, 3) := by decide +kernel
theorem d_Mo_goesThrough_16 : decode prog_13_method_71_code 16 = .ok (.iconst 1, 1) := by decide +kernel
theorem d_Mo_goesThrough_17 : decode prog_13_method_71_code 17 = .ok (.goto 4, 3) := by decide +kernel
theorem d_Mo_goesThrough_20 : decode prog_13_method_71_code 20 = .ok (.iconst 0, 1) := by decide +kernel
theorem d_Mo_goesThrough_21 : decode prog_13_method_71_code 21 = .ok (.ireturn, 1) := by decide +kernel
theorem d_Mo_goesThrough_22 : decode prog_13_method_71_code 22 = .ok (.iload_n 1, 1) := by decide +kernel
theorem d_Mo_goesThrough_23 : decode prog_13_method_71_code 23 = .ok (.iload_n 2, 1) := by decide +kernel
theorem d_Mo_goesThrough_24 : decode prog_13_method_71_code 24 = .ok (.if_icmp .ne 5, 3) := by decide +kernel
theorem d_Mo_goesThrough_27 : decode prog_13_method_71_code 27 = .ok (.iconst 0, 1) := by decide +kernel
theorem d_Mo_goesThrough_28 : decode prog_13_method_71_code 28 = .ok (.ireturn, 1) := by decide +kernel
theorem d_Mo_goesThrough_29 : decode prog_13_method_71_code 29 = .ok (.iconst 0, 1) := by decide +kernel
theorem d_Mo_goesThrough_30 : decode prog_13_method_71_code 30 = .ok (.istore 5, 2) := by decide +kernel
theorem d_Mo_goesThrough_32 : decode prog_13_method_71_code 32 = .ok (.iload 5, 2) := by decide +kernel
theorem d_Mo_goesThrough_34 : decode prog_13_method_71_code 34 = .ok (.aload_n 0, 1) := by decide +kernel
theorem d_Mo_goesThrough_35 : decode prog_13_method_71_code 35 = .ok (.getfield 7, 3) := by decide +kernel
theorem d_Mo_goesThrough_38 : decode prog_13_method_71_code 38 = .ok (.if_icmp .ge 61, 3) := by decide +kernel
theorem d_Mo_goesThrough_41 : decode prog_13_method_71_code 41 = .ok (.iload_n 1, 1) := by decide +kernel
theorem d_Mo_goesThrough_42 : decode prog_13_method_71_code 42 = .ok (.iconst 1, 1) := by decide +kernel
theorem d_Mo_goesThrough_43 : decode prog_13_method_71_code 43 = .ok (.iload 5, 2) := by decide +kernel
theorem d_Mo_goesThrough_45 : decode prog_13_method_71_code 45 = .ok (.ishl, 1) := by decide +kernel
theorem d_Mo_goesThrough_46 : decode prog_13_method_71_code 46 = .ok (.ixor, 1) := by decide +kernel
theorem d_Mo_goesThrough_47 : decode prog_13_method_71_code 47 = .ok (.istore 6, 2) := by decide +kernel
theorem d_Mo_goesThrough_49 : decode prog_13_method_71_code 49 = .ok (.iload_n 3, 1) := by decide +kernel
theorem d_Mo_goesThrough_50 : decode prog_13_method_71_code 50 = .ok (.iload 6, 2) := by decide +kernel
theorem d_Mo_goesThrough_52 : decode prog_13_method_71_code 52 = .ok (.ishr, 1) := by decide +kernel
theorem d_Mo_goesThrough_53 : decode prog_13_method_71_code 53 = .ok (.iconst 1, 1) := by decide +kernel
theorem d_Mo_goesThrough_54 : decode prog_13_method_71_code 54 = .ok (.iand, 1) := by decide +kernel
theorem d_Mo_goesThrough_55 : decode prog_13_method_71_code 55 = .ok (.iconst 1, 1) := by decide +kernel
theorem d_Mo_goesThrough_56 : decode prog_13_method_71_code 56 = .ok (.if_icmp .ne 6, 3) := by decide +kernel
theorem d_Mo_goesThrough_59 : decode prog_13_method_71_code 59 = .ok (.goto 34, 3) := by decide +kernel
theorem d_Mo_goesThrough_62 : decode prog_13_method_71_code 62 = .ok (.aload_n 0, 1) := by decide +kernel
theorem d_Mo_goesThrough_63 : decode prog_13_method_71_code 63 = .ok (.getfield 71, 3) := by decide +kernel
theorem d_Mo_goesThrough_66 : decode prog_13_method_71_code 66 = .ok (.iload 4, 2) := by decide +kernel
theorem d_Mo_goesThrough_68 : decode prog_13_method_71_code 68 = .ok (.iload 5, 2) := by decide +kernel
theorem d_Mo_goesThrough_70 : decode prog_13_method_71_code 70 = .ok (.iastore, 1) := by decide +kernel
theorem d_Mo_goesThrough_71 : decode prog_13_method_71_code 71 = .ok (.aload_n 0, 1) := by decide +kernel
theorem d_Mo_goesThrough_72 : decode prog_13_method_71_code 72 = .ok (.iload 6, 2) := by decide +kernel
theorem d_Mo_goesThrough_74 : decode prog_13_method_71_code 74 = .ok (.iload_n 2, 1) := by decide +kernel
theorem d_Mo_goesThrough_75 : decode prog_13_method_71_code 75 = .ok (.iload_n 3, 1) := by decide +kernel
theorem d_Mo_goesThrough_76 : decode prog_13_method_71_code 76 = .ok (.iconst 1, 1) := by decide +kernel
theorem d_Mo_goesThrough_77 : decode prog_13_method_71_code 77 = .ok (.iload 6, 2) := by decide +kernel
theorem d_Mo_goesThrough_79 : decode prog_13_method_71_code 79 = .ok (.ishl, 1) := by decide +kernel
theorem d_Mo_goesThrough_80 : decode prog_13_method_71_code 80 = .ok (.ior, 1) := by decide +kernel
theorem d_Mo_goesThrough_81 : decode prog_13_method_71_code 81 = .ok (.iload 4, 2) := by decide +kernel
theorem d_Mo_goesThrough_83 : decode prog_13_method_71_code 83 = .ok (.iconst 1, 1) := by decide +kernel
theorem d_Mo_goesThrough_84 : decode prog_13_method_71_code 84 = .ok (.iadd, 1) := by decide +kernel
theorem d_Mo_goesThrough_85 : decode prog_13_method_71_code 85 = .ok (.invokevirtual 329, 3) := by decide +kernel
theorem d_Mo_goesThrough_88 : decode prog_13_method_71_code 88 = .ok (.ifCond .eq 5, 3) := by decide +kernel
theorem d_Mo_goesThrough_91 : decode prog_13_method_71_code 91 = .ok (.iconst 1, 1) := by decide +kernel
theorem d_Mo_goesThrough_92 : decode prog_13_method_71_code 92 = .ok (.ireturn, 1) := by decide +kernel
theorem d_Mo_goesThrough_93 : decode prog_13_method_71_code 93 = .ok (.iinc 5 1, 3) := by decide +kernel
theorem d_Mo_goesThrough_96 : decode prog_13_method_71_code 96 = .ok (.goto (-64), 3) := by decide +kernel
theorem d_Mo_goesThrough_99 : decode prog_13_method_71_code 99 = .ok (.iconst 0, 1) := by decide +kernel
theorem d_Mo_goesThrough_100 : decode prog_13_method_71_code 100 = .ok (.ireturn, 1) := by decide +kernel
def f_Mo_goesThrough_L93 (rec_Mo_goesThrough : Int32 → Int32 → Int32 → Int32 → Int32 → (Nat → Int32) → Option (Bool × (Nat → Int32))) (k32 : Int32 → Int32 → Int32 → Int32 → Int32 → Int32 → (Nat → Int32) → Option (Bool × (Nat → Int32))) (v1 : Int32) (v2 : Int32) (v3 : Int32) (v4 : Int32) (v5 : Int32) (x_o_lamps : Int32) (x_o_way : Nat → Int32) : Option (Bool × (Nat → Int32)) :=
  k32 v1 v2 v3 v4 (v5 + 1) x_o_lamps x_o_way
set_option maxRecDepth 20000 in
theorem w_Mo_goesThrough_L93 {p : Program} {l : Launch} {e : Env} {s : State} {m : MethodId} {args : Array Value} {below : List Frame} {meth : Method} {c : Code} {D : va_G} {dA : Nat → ClassId} {A : Nat → Prop} (C : GC p s m args meth c prog_13_method_71_code 7 "OneLampModel" (some .boolean) D dA A) {a_o a_o_had a_o_told a_o_barred a_o_cost a_o_last a_o_often a_o_changeOf a_o_changeAt a_o_before a_o_behind a_o_tape a_o_act a_o_with a_o_lineMany a_o_testEnd a_o_lineEnd a_o_facts a_o_pile a_o_way a_o_bestWay a_o_wasHad a_o_wasLast a_o_keptHad a_o_keptTold a_o_keptLast a_o_keptOften a_o_kind a_o_traced a_o_holds a_o_size a_o_elements a_o_shifted : Nat} {x_o_code : Int32} {x_o_at : Int32} {x_o_night : Int32} {x_o_spent : Int32} {x_o_rest : Int32} {x_o_shy : Int32} {x_o_hasBegun : Bool} {x_o_doneMany : Int32} {x_o_undoneMany : Int32} {x_o_taped : Int32} {x_o_here : Int32} {x_o_fault : Int32} {x_o_open : Int32} {x_o_laid : Int32} {x_o_hasLaw : Bool} {x_o_bestMany : Int32} {x_o_wasAt : Int32} {x_o_wasNight : Int32} {x_o_hasImage : Bool} {x_o_keptLamps : Int32} {x_o_keptAt : Int32} {x_o_keptNight : Int32} {x_o_keptSpent : Int32} {x_o_bodies : Int32} {x_o_traces : Int32} {r0 : Bool} {o_x_o_way : Nat → Int32}  {fr lo : Nat} (rec_Mo_goesThrough : Int32 → Int32 → Int32 → Int32 → Int32 → (Nat → Int32) → Option (Bool × (Nat → Int32))) (hrec_Mo_goesThrough : ∀ (a_o : Nat) (a_o_had : Nat) (a_o_told : Nat) (a_o_barred : Nat) (a_o_cost : Nat) (a_o_last : Nat) (a_o_often : Nat) (a_o_changeOf : Nat) (a_o_changeAt : Nat) (a_o_before : Nat) (a_o_behind : Nat) (a_o_tape : Nat) (a_o_act : Nat) (a_o_with : Nat) (a_o_lineMany : Nat) (a_o_testEnd : Nat) (a_o_lineEnd : Nat) (a_o_facts : Nat) (a_o_pile : Nat) (a_o_way : Nat) (a_o_bestWay : Nat) (a_o_wasHad : Nat) (a_o_wasLast : Nat) (a_o_keptHad : Nat) (a_o_keptTold : Nat) (a_o_keptLast : Nat) (a_o_keptOften : Nat) (a_o_kind : Nat) (a_o_traced : Nat) (a_o_holds : Nat) (a_o_size : Nat) (a_o_elements : Nat) (a_o_shifted : Nat) (x_o_code : Int32) (x_o_at : Int32) (x_o_night : Int32) (x_o_spent : Int32) (x_o_rest : Int32) (x_o_shy : Int32) (x_o_hasBegun : Bool) (x_o_doneMany : Int32) (x_o_undoneMany : Int32) (x_o_taped : Int32) (x_o_here : Int32) (x_o_fault : Int32) (x_o_open : Int32) (x_o_laid : Int32) (x_o_hasLaw : Bool) (x_o_bestMany : Int32) (x_o_wasAt : Int32) (x_o_wasNight : Int32) (x_o_hasImage : Bool) (x_o_keptLamps : Int32) (x_o_keptAt : Int32) (x_o_keptNight : Int32) (x_o_keptSpent : Int32) (x_o_bodies : Int32) (x_o_traces : Int32) (p1 : Int32) (p2 : Int32) (p3 : Int32) (p4 : Int32) (x_o_lamps : Int32) (x_o_way : Nat → Int32) (r0 : Bool) (o_x_o_way : Nat → Int32), rec_Mo_goesThrough p1 p2 p3 p4 x_o_lamps x_o_way = some (r0, o_x_o_way) → CT l y_Mo_goesThrough prog_13_method_71_code 7 (some .boolean) { frames := fr, cells := 0, slots := 0, locals := lo } D dA [.ref a_o, .int p1, .int p2, .int p3, .int p4] [O_Mo a_o x_o_code x_o_lamps x_o_at x_o_night x_o_spent x_o_rest x_o_shy a_o_had a_o_told a_o_barred a_o_cost a_o_last a_o_often x_o_hasBegun x_o_doneMany x_o_undoneMany a_o_changeOf a_o_changeAt a_o_before a_o_behind a_o_tape x_o_taped x_o_here x_o_fault x_o_open x_o_laid a_o_act a_o_with a_o_lineMany a_o_testEnd a_o_lineEnd a_o_facts a_o_pile x_o_hasLaw a_o_way a_o_bestWay x_o_bestMany a_o_wasHad a_o_wasLast x_o_wasAt x_o_wasNight x_o_hasImage x_o_keptLamps x_o_keptAt x_o_keptNight x_o_keptSpent a_o_keptHad a_o_keptTold a_o_keptLast a_o_keptOften x_o_bodies a_o_kind x_o_traces a_o_traced a_o_holds a_o_size a_o_elements a_o_shifted, A_I dA a_o_way 16 x_o_way] (some (.int (b2i r0))) (fun _ : Unit => [O_Mo a_o x_o_code x_o_lamps x_o_at x_o_night x_o_spent x_o_rest x_o_shy a_o_had a_o_told a_o_barred a_o_cost a_o_last a_o_often x_o_hasBegun x_o_doneMany x_o_undoneMany a_o_changeOf a_o_changeAt a_o_before a_o_behind a_o_tape x_o_taped x_o_here x_o_fault x_o_open x_o_laid a_o_act a_o_with a_o_lineMany a_o_testEnd a_o_lineEnd a_o_facts a_o_pile x_o_hasLaw a_o_way a_o_bestWay x_o_bestMany a_o_wasHad a_o_wasLast x_o_wasAt x_o_wasNight x_o_hasImage x_o_keptLamps x_o_keptAt x_o_keptNight x_o_keptSpent a_o_keptHad a_o_keptTold a_o_keptLast a_o_keptOften x_o_bodies a_o_kind x_o_traces a_o_traced a_o_holds a_o_size a_o_elements a_o_shifted, A_I dA a_o_way 16 o_x_o_way])) (k32 : Int32 → Int32 → Int32 → Int32 → Int32 → Int32 → (Nat → Int32) → Option (Bool × (Nat → Int32))) (hk32 : ∀ (v1 : Int32) (v2 : Int32) (v3 : Int32) (v4 : Int32) (v5 : Int32) (x_o_lamps : Int32) (x_o_way : Nat → Int32), k32 v1 v2 v3 v4 v5 x_o_lamps x_o_way = some (r0, o_x_o_way) → GG p l e { frames := fr + 1, cells := 0, slots := 0, locals := lo + 26 } s m args below meth c 7 D A 0 0 (MQ below (cQ D A (some (.int (b2i r0))) (fun _ : Unit => [O_Mo a_o x_o_code x_o_lamps x_o_at x_o_night x_o_spent x_o_rest x_o_shy a_o_had a_o_told a_o_barred a_o_cost a_o_last a_o_often x_o_hasBegun x_o_doneMany x_o_undoneMany a_o_changeOf a_o_changeAt a_o_before a_o_behind a_o_tape x_o_taped x_o_here x_o_fault x_o_open x_o_laid a_o_act a_o_with a_o_lineMany a_o_testEnd a_o_lineEnd a_o_facts a_o_pile x_o_hasLaw a_o_way a_o_bestWay x_o_bestMany a_o_wasHad a_o_wasLast x_o_wasAt x_o_wasNight x_o_hasImage x_o_keptLamps x_o_keptAt x_o_keptNight x_o_keptSpent a_o_keptHad a_o_keptTold a_o_keptLast a_o_keptOften x_o_bodies a_o_kind x_o_traces a_o_traced a_o_holds a_o_size a_o_elements a_o_shifted, A_I dA a_o_way 16 o_x_o_way])) args s 0 0 A) 32 [(0, .ref a_o), (1, .int v1), (2, .int v2), (3, .int v3), (4, .int v4), (5, .int v5)] [] [O_Mo a_o x_o_code x_o_lamps x_o_at x_o_night x_o_spent x_o_rest x_o_shy a_o_had a_o_told a_o_barred a_o_cost a_o_last a_o_often x_o_hasBegun x_o_doneMany x_o_undoneMany a_o_changeOf a_o_changeAt a_o_before a_o_behind a_o_tape x_o_taped x_o_here x_o_fault x_o_open x_o_laid a_o_act a_o_with a_o_lineMany a_o_testEnd a_o_lineEnd a_o_facts a_o_pile x_o_hasLaw a_o_way a_o_bestWay x_o_bestMany a_o_wasHad a_o_wasLast x_o_wasAt x_o_wasNight x_o_hasImage x_o_keptLamps x_o_keptAt x_o_keptNight x_o_keptSpent a_o_keptHad a_o_keptTold a_o_keptLast a_o_keptOften x_o_bodies a_o_kind x_o_traces a_o_traced a_o_holds a_o_size a_o_elements a_o_shifted, A_I dA a_o_way 16 x_o_way]) (v1 : Int32) (v2 : Int32) (v3 : Int32) (v4 : Int32) (v5 : Int32) (x_o_lamps : Int32) (x_o_way : Nat → Int32) (hf : f_Mo_goesThrough_L93 rec_Mo_goesThrough k32 v1 v2 v3 v4 v5 x_o_lamps x_o_way = some (r0, o_x_o_way)) : GG p l e { frames := fr + 1, cells := 0, slots := 0, locals := lo + 26 } s m args below meth c 7 D A 0 0 (MQ below (cQ D A (some (.int (b2i r0))) (fun _ : Unit => [O_Mo a_o x_o_code x_o_lamps x_o_at x_o_night x_o_spent x_o_rest x_o_shy a_o_had a_o_told a_o_barred a_o_cost a_o_last a_o_often x_o_hasBegun x_o_doneMany x_o_undoneMany a_o_changeOf a_o_changeAt a_o_before a_o_behind a_o_tape x_o_taped x_o_here x_o_fault x_o_open x_o_laid a_o_act a_o_with a_o_lineMany a_o_testEnd a_o_lineEnd a_o_facts a_o_pile x_o_hasLaw a_o_way a_o_bestWay x_o_bestMany a_o_wasHad a_o_wasLast x_o_wasAt x_o_wasNight x_o_hasImage x_o_keptLamps x_o_keptAt x_o_keptNight x_o_keptSpent a_o_keptHad a_o_keptTold a_o_keptLast a_o_keptOften x_o_bodies a_o_kind x_o_traces a_o_traced a_o_holds a_o_size a_o_elements a_o_shifted, A_I dA a_o_way 16 o_x_o_way])) args s 0 0 A) 93 [(0, .ref a_o), (1, .int v1), (2, .int v2), (3, .int v3), (4, .int v4), (5, .int v5)] [] [O_Mo a_o x_o_code x_o_lamps x_o_at x_o_night x_o_spent x_o_rest x_o_shy a_o_had a_o_told a_o_barred a_o_cost a_o_last a_o_often x_o_hasBegun x_o_doneMany x_o_undoneMany a_o_changeOf a_o_changeAt a_o_before a_o_behind a_o_tape x_o_taped x_o_here x_o_fault x_o_open x_o_laid a_o_act a_o_with a_o_lineMany a_o_testEnd a_o_lineEnd a_o_facts a_o_pile x_o_hasLaw a_o_way a_o_bestWay x_o_bestMany a_o_wasHad a_o_wasLast x_o_wasAt x_o_wasNight x_o_hasImage x_o_keptLamps x_o_keptAt x_o_keptNight x_o_keptSpent a_o_keptHad a_o_keptTold a_o_keptLast a_o_keptOften x_o_bodies a_o_kind x_o_traces a_o_traced a_o_holds a_o_size a_o_elements a_o_shifted, A_I dA a_o_way 16 x_o_way] := by
  unfold f_Mo_goesThrough_L93 at hf
  refine g_iinc (pc' := 96) (j := 5) (v := (v5 + 1)) (lv' := [(5, .int (v5 + 1)), (0, .ref a_o), (1, .int v1), (2, .int v2), (3, .int v3), (4, .int v4)]) C d_Mo_goesThrough_93 rfl rfl rfl (by decide) rfl ?_
  refine g_goto (tgt := 32) C d_Mo_goesThrough_96 rfl ?_
  refine g_lv (lv' := [(0, .ref a_o), (1, .int v1), (2, .int v2), (3, .int v3), (4, .int v4), (5, .int (v5 + 1))]) [1, 2, 3, 4, 5, 0] rfl ?_
  exact hk32 v1 v2 v3 v4 (v5 + 1) x_o_lamps x_o_way hf
def f_Mo_goesThrough_L32 (rec_Mo_goesThrough : Int32 → Int32 → Int32 → Int32 → Int32 → (Nat → Int32) → Option (Bool × (Nat → Int32)))  : Nat → Int32 → Int32 → Int32 → Int32 → Int32 → Int32 → (Nat → Int32) → Option (Bool × (Nat → Int32))
  | 0, _, _, _, _, _, _, _ => none
  | n + 1, v1, v2, v3, v4, v5, x_o_lamps, x_o_way =>
    if x_o_lamps ≤ v5 then
      (some (false, x_o_way))
    else
      (if ((v3 >>> ((v1 ^^^ ((1 : Int32) <<< (v5 &&& 31))) &&& 31)) &&& (1 : Int32)) = (1 : Int32) then
        (f_Mo_goesThrough_L93 rec_Mo_goesThrough (f_Mo_goesThrough_L32 rec_Mo_goesThrough n) v1 v2 v3 v4 v5 x_o_lamps x_o_way)
      else
        (if v4 < 0 ∨ 16 ≤ Int32.toNatClampNeg v4 then none else
        (rec_Mo_goesThrough  (v1 ^^^ ((1 : Int32) <<< (v5 &&& 31))) v2 (v3 ||| ((1 : Int32) <<< ((v1 ^^^ ((1 : Int32) <<< (v5 &&& 31))) &&& 31))) (v4 + (1 : Int32)) x_o_lamps (upd x_o_way (Int32.toNatClampNeg v4) v5)).bind fun (r1, u2) =>
        if r1 = true then
          (some (true, u2))
        else
          (f_Mo_goesThrough_L93 rec_Mo_goesThrough (f_Mo_goesThrough_L32 rec_Mo_goesThrough n) v1 v2 v3 v4 v5 x_o_lamps u2)))
set_option maxRecDepth 20000 in
theorem w_Mo_goesThrough_L32 {p : Program} {l : Launch} {e : Env} {s : State} {m : MethodId} {args : Array Value} {below : List Frame} {meth : Method} {c : Code} {D : va_G} {dA : Nat → ClassId} {A : Nat → Prop} (C : GC p s m args meth c prog_13_method_71_code 7 "OneLampModel" (some .boolean) D dA A) {a_o a_o_had a_o_told a_o_barred a_o_cost a_o_last a_o_often a_o_changeOf a_o_changeAt a_o_before a_o_behind a_o_tape a_o_act a_o_with a_o_lineMany a_o_testEnd a_o_lineEnd a_o_facts a_o_pile a_o_way a_o_bestWay a_o_wasHad a_o_wasLast a_o_keptHad a_o_keptTold a_o_keptLast a_o_keptOften a_o_kind a_o_traced a_o_holds a_o_size a_o_elements a_o_shifted : Nat} {x_o_code : Int32} {x_o_at : Int32} {x_o_night : Int32} {x_o_spent : Int32} {x_o_rest : Int32} {x_o_shy : Int32} {x_o_hasBegun : Bool} {x_o_doneMany : Int32} {x_o_undoneMany : Int32} {x_o_taped : Int32} {x_o_here : Int32} {x_o_fault : Int32} {x_o_open : Int32} {x_o_laid : Int32} {x_o_hasLaw : Bool} {x_o_bestMany : Int32} {x_o_wasAt : Int32} {x_o_wasNight : Int32} {x_o_hasImage : Bool} {x_o_keptLamps : Int32} {x_o_keptAt : Int32} {x_o_keptNight : Int32} {x_o_keptSpent : Int32} {x_o_bodies : Int32} {x_o_traces : Int32} {r0 : Bool} {o_x_o_way : Nat → Int32}  {fr lo : Nat} (rec_Mo_goesThrough : Int32 → Int32 → Int32 → Int32 → Int32 → (Nat → Int32) → Option (Bool × (Nat → Int32))) (hrec_Mo_goesThrough : ∀ (a_o : Nat) (a_o_had : Nat) (a_o_told : Nat) (a_o_barred : Nat) (a_o_cost : Nat) (a_o_last : Nat) (a_o_often : Nat) (a_o_changeOf : Nat) (a_o_changeAt : Nat) (a_o_before : Nat) (a_o_behind : Nat) (a_o_tape : Nat) (a_o_act : Nat) (a_o_with : Nat) (a_o_lineMany : Nat) (a_o_testEnd : Nat) (a_o_lineEnd : Nat) (a_o_facts : Nat) (a_o_pile : Nat) (a_o_way : Nat) (a_o_bestWay : Nat) (a_o_wasHad : Nat) (a_o_wasLast : Nat) (a_o_keptHad : Nat) (a_o_keptTold : Nat) (a_o_keptLast : Nat) (a_o_keptOften : Nat) (a_o_kind : Nat) (a_o_traced : Nat) (a_o_holds : Nat) (a_o_size : Nat) (a_o_elements : Nat) (a_o_shifted : Nat) (x_o_code : Int32) (x_o_at : Int32) (x_o_night : Int32) (x_o_spent : Int32) (x_o_rest : Int32) (x_o_shy : Int32) (x_o_hasBegun : Bool) (x_o_doneMany : Int32) (x_o_undoneMany : Int32) (x_o_taped : Int32) (x_o_here : Int32) (x_o_fault : Int32) (x_o_open : Int32) (x_o_laid : Int32) (x_o_hasLaw : Bool) (x_o_bestMany : Int32) (x_o_wasAt : Int32) (x_o_wasNight : Int32) (x_o_hasImage : Bool) (x_o_keptLamps : Int32) (x_o_keptAt : Int32) (x_o_keptNight : Int32) (x_o_keptSpent : Int32) (x_o_bodies : Int32) (x_o_traces : Int32) (p1 : Int32) (p2 : Int32) (p3 : Int32) (p4 : Int32) (x_o_lamps : Int32) (x_o_way : Nat → Int32) (r0 : Bool) (o_x_o_way : Nat → Int32), rec_Mo_goesThrough p1 p2 p3 p4 x_o_lamps x_o_way = some (r0, o_x_o_way) → CT l y_Mo_goesThrough prog_13_method_71_code 7 (some .boolean) { frames := fr, cells := 0, slots := 0, locals := lo } D dA [.ref a_o, .int p1, .int p2, .int p3, .int p4] [O_Mo a_o x_o_code x_o_lamps x_o_at x_o_night x_o_spent x_o_rest x_o_shy a_o_had a_o_told a_o_barred a_o_cost a_o_last a_o_often x_o_hasBegun x_o_doneMany x_o_undoneMany a_o_changeOf a_o_changeAt a_o_before a_o_behind a_o_tape x_o_taped x_o_here x_o_fault x_o_open x_o_laid a_o_act a_o_with a_o_lineMany a_o_testEnd a_o_lineEnd a_o_facts a_o_pile x_o_hasLaw a_o_way a_o_bestWay x_o_bestMany a_o_wasHad a_o_wasLast x_o_wasAt x_o_wasNight x_o_hasImage x_o_keptLamps x_o_keptAt x_o_keptNight x_o_keptSpent a_o_keptHad a_o_keptTold a_o_keptLast a_o_keptOften x_o_bodies a_o_kind x_o_traces a_o_traced a_o_holds a_o_size a_o_elements a_o_shifted, A_I dA a_o_way 16 x_o_way] (some (.int (b2i r0))) (fun _ : Unit => [O_Mo a_o x_o_code x_o_lamps x_o_at x_o_night x_o_spent x_o_rest x_o_shy a_o_had a_o_told a_o_barred a_o_cost a_o_last a_o_often x_o_hasBegun x_o_doneMany x_o_undoneMany a_o_changeOf a_o_changeAt a_o_before a_o_behind a_o_tape x_o_taped x_o_here x_o_fault x_o_open x_o_laid a_o_act a_o_with a_o_lineMany a_o_testEnd a_o_lineEnd a_o_facts a_o_pile x_o_hasLaw a_o_way a_o_bestWay x_o_bestMany a_o_wasHad a_o_wasLast x_o_wasAt x_o_wasNight x_o_hasImage x_o_keptLamps x_o_keptAt x_o_keptNight x_o_keptSpent a_o_keptHad a_o_keptTold a_o_keptLast a_o_keptOften x_o_bodies a_o_kind x_o_traces a_o_traced a_o_holds a_o_size a_o_elements a_o_shifted, A_I dA a_o_way 16 o_x_o_way]))  : ∀ (n : Nat) (v1 : Int32) (v2 : Int32) (v3 : Int32) (v4 : Int32) (v5 : Int32) (x_o_lamps : Int32) (x_o_way : Nat → Int32), f_Mo_goesThrough_L32 rec_Mo_goesThrough  n v1 v2 v3 v4 v5 x_o_lamps x_o_way = some (r0, o_x_o_way) → GG p l e { frames := fr + 1, cells := 0, slots := 0, locals := lo + 26 } s m args below meth c 7 D A 0 0 (MQ below (cQ D A (some (.int (b2i r0))) (fun _ : Unit => [O_Mo a_o x_o_code x_o_lamps x_o_at x_o_night x_o_spent x_o_rest x_o_shy a_o_had a_o_told a_o_barred a_o_cost a_o_last a_o_often x_o_hasBegun x_o_doneMany x_o_undoneMany a_o_changeOf a_o_changeAt a_o_before a_o_behind a_o_tape x_o_taped x_o_here x_o_fault x_o_open x_o_laid a_o_act a_o_with a_o_lineMany a_o_testEnd a_o_lineEnd a_o_facts a_o_pile x_o_hasLaw a_o_way a_o_bestWay x_o_bestMany a_o_wasHad a_o_wasLast x_o_wasAt x_o_wasNight x_o_hasImage x_o_keptLamps x_o_keptAt x_o_keptNight x_o_keptSpent a_o_keptHad a_o_keptTold a_o_keptLast a_o_keptOften x_o_bodies a_o_kind x_o_traces a_o_traced a_o_holds a_o_size a_o_elements a_o_shifted, A_I dA a_o_way 16 o_x_o_way])) args s 0 0 A) 32 [(0, .ref a_o), (1, .int v1), (2, .int v2), (3, .int v3), (4, .int v4), (5, .int v5)] [] [O_Mo a_o x_o_code x_o_lamps x_o_at x_o_night x_o_spent x_o_rest x_o_shy a_o_had a_o_told a_o_barred a_o_cost a_o_last a_o_often x_o_hasBegun x_o_doneMany x_o_undoneMany a_o_changeOf a_o_changeAt a_o_before a_o_behind a_o_tape x_o_taped x_o_here x_o_fault x_o_open x_o_laid a_o_act a_o_with a_o_lineMany a_o_testEnd a_o_lineEnd a_o_facts a_o_pile x_o_hasLaw a_o_way a_o_bestWay x_o_bestMany a_o_wasHad a_o_wasLast x_o_wasAt x_o_wasNight x_o_hasImage x_o_keptLamps x_o_keptAt x_o_keptNight x_o_keptSpent a_o_keptHad a_o_keptTold a_o_keptLast a_o_keptOften x_o_bodies a_o_kind x_o_traces a_o_traced a_o_holds a_o_size a_o_elements a_o_shifted, A_I dA a_o_way 16 x_o_way] := by
  intro n
  induction n with
  | zero =>
    intro v1 v2 v3 v4 v5 x_o_lamps x_o_way hf
    cases hf
  | succ n ih =>
    intro v1 v2 v3 v4 v5 x_o_lamps x_o_way hf
    unfold f_Mo_goesThrough_L32 at hf
    refine g_iload (pc' := 34) C 5 d_Mo_goesThrough_32 rfl rfl ?_
    refine g_aload_n (pc' := 35) C 0 d_Mo_goesThrough_34 rfl rfl ?_
    refine g_get (pc' := 38) C kf_Mo 1 mw_4_139 d_Mo_goesThrough_35 rfl 0 rfl (by decide) rfl ?_
    refine g_icmp_ge (pc' := 41) (tgt := 99) C d_Mo_goesThrough_38 rfl rfl (fun h => ?_) (fun h => ?_)
    · replace hf := g_ip h hf
      refine g_iconst (pc' := 100) (v := 0) C d_Mo_goesThrough_99 rfl rfl ?_
      replace hf := g_o2 hf; obtain ⟨h1, hf⟩ := hf; subst h1
      replace hf := Option.some.inj hf; subst hf
      exact g_zret C d_Mo_goesThrough_100 () rfl
    · replace hf := g_in h hf
      refine g_iload_n (pc' := 42) C 1 d_Mo_goesThrough_41 rfl rfl ?_
      refine g_iconst (pc' := 43) (v := 1) C d_Mo_goesThrough_42 rfl rfl ?_
      refine g_iload (pc' := 45) C 5 d_Mo_goesThrough_43 rfl rfl ?_
      refine g_ishl (pc' := 46) C d_Mo_goesThrough_45 rfl ?_
      refine g_ixor (pc' := 47) C d_Mo_goesThrough_46 rfl ?_
      refine g_istore (pc' := 49) (lv' := [(6, .int (v1 ^^^ ((1 : Int32) <<< (v5 &&& 31)))), (0, .ref a_o), (1, .int v1), (2, .int v2), (3, .int v3), (4, .int v4), (5, .int v5)]) C d_Mo_goesThrough_47 rfl (by decide) rfl ?_
      refine g_iload_n (pc' := 50) C 4 d_Mo_goesThrough_49 rfl rfl ?_
      refine g_iload (pc' := 52) C 0 d_Mo_goesThrough_50 rfl rfl ?_
      refine g_ishr (pc' := 53) C d_Mo_goesThrough_52 rfl ?_
      refine g_iconst (pc' := 54) (v := 1) C d_Mo_goesThrough_53 rfl rfl ?_
      refine g_iand (pc' := 55) C d_Mo_goesThrough_54 rfl ?_
      refine g_iconst (pc' := 56) (v := 1) C d_Mo_goesThrough_55 rfl rfl ?_
      refine g_icmp_ne (pc' := 59) (tgt := 62) C d_Mo_goesThrough_56 rfl rfl (fun h => ?_) (fun h => ?_)
      · replace hf := g_in h hf
        refine g_aload_n (pc' := 63) C 1 d_Mo_goesThrough_62 rfl rfl ?_
        refine g_get (pc' := 66) C kf_Mo 34 mw_4_172 d_Mo_goesThrough_63 rfl 0 rfl (by decide) rfl ?_
        refine g_iload (pc' := 68) C 5 d_Mo_goesThrough_66 rfl rfl ?_
        refine g_iload (pc' := 70) C 6 d_Mo_goesThrough_68 rfl rfl ?_
        have hb := g_ck hf
        replace hf := g_in hb hf
        refine g_iast (pc' := 71) (ws' := [O_Mo a_o x_o_code x_o_lamps x_o_at x_o_night x_o_spent x_o_rest x_o_shy a_o_had a_o_told a_o_barred a_o_cost a_o_last a_o_often x_o_hasBegun x_o_doneMany x_o_undoneMany a_o_changeOf a_o_changeAt a_o_before a_o_behind a_o_tape x_o_taped x_o_here x_o_fault x_o_open x_o_laid a_o_act a_o_with a_o_lineMany a_o_testEnd a_o_lineEnd a_o_facts a_o_pile x_o_hasLaw a_o_way a_o_bestWay x_o_bestMany a_o_wasHad a_o_wasLast x_o_wasAt x_o_wasNight x_o_hasImage x_o_keptLamps x_o_keptAt x_o_keptNight x_o_keptSpent a_o_keptHad a_o_keptTold a_o_keptLast a_o_keptOften x_o_bodies a_o_kind x_o_traces a_o_traced a_o_holds a_o_size a_o_elements a_o_shifted, A_I dA a_o_way 16 (upd x_o_way (Int32.toNatClampNeg v4) v5)]) C d_Mo_goesThrough_70 rfl 1 rfl hb rfl ?_
        refine g_aload_n (pc' := 72) C 1 d_Mo_goesThrough_71 rfl rfl ?_
        refine g_iload (pc' := 74) C 0 d_Mo_goesThrough_72 rfl rfl ?_
        refine g_iload_n (pc' := 75) C 3 d_Mo_goesThrough_74 rfl rfl ?_
        refine g_iload_n (pc' := 76) C 4 d_Mo_goesThrough_75 rfl rfl ?_
        refine g_iconst (pc' := 77) (v := 1) C d_Mo_goesThrough_76 rfl rfl ?_
        refine g_iload (pc' := 79) C 0 d_Mo_goesThrough_77 rfl rfl ?_
        refine g_ishl (pc' := 80) C d_Mo_goesThrough_79 rfl ?_
        refine g_ior (pc' := 81) C d_Mo_goesThrough_80 rfl ?_
        refine g_iload (pc' := 83) C 5 d_Mo_goesThrough_81 rfl rfl ?_
        refine g_iconst (pc' := 84) (v := 1) C d_Mo_goesThrough_83 rfl rfl ?_
        refine g_iadd (pc' := 85) C d_Mo_goesThrough_84 rfl ?_
        replace hf := g_bi hf; obtain ⟨⟨r1, u2⟩, hc3, hf⟩ := hf
        dsimp only at hf
        refine g_callV (pc' := 88) (st1 := [.int (b2i r1)]) (ws1 := [O_Mo a_o x_o_code x_o_lamps x_o_at x_o_night x_o_spent x_o_rest x_o_shy a_o_had a_o_told a_o_barred a_o_cost a_o_last a_o_often x_o_hasBegun x_o_doneMany x_o_undoneMany a_o_changeOf a_o_changeAt a_o_before a_o_behind a_o_tape x_o_taped x_o_here x_o_fault x_o_open x_o_laid a_o_act a_o_with a_o_lineMany a_o_testEnd a_o_lineEnd a_o_facts a_o_pile x_o_hasLaw a_o_way a_o_bestWay x_o_bestMany a_o_wasHad a_o_wasLast x_o_wasAt x_o_wasNight x_o_hasImage x_o_keptLamps x_o_keptAt x_o_keptNight x_o_keptSpent a_o_keptHad a_o_keptTold a_o_keptLast a_o_keptOften x_o_bodies a_o_kind x_o_traces a_o_traced a_o_holds a_o_size a_o_elements a_o_shifted, A_I dA a_o_way 16 u2]) C (hrec_Mo_goesThrough a_o a_o_had a_o_told a_o_barred a_o_cost a_o_last a_o_often a_o_changeOf a_o_changeAt a_o_before a_o_behind a_o_tape a_o_act a_o_with a_o_lineMany a_o_testEnd a_o_lineEnd a_o_facts a_o_pile a_o_way a_o_bestWay a_o_wasHad a_o_wasLast a_o_keptHad a_o_keptTold a_o_keptLast a_o_keptOften a_o_kind a_o_traced a_o_holds a_o_size a_o_elements a_o_shifted x_o_code x_o_at x_o_night x_o_spent x_o_rest x_o_shy x_o_hasBegun x_o_doneMany x_o_undoneMany x_o_taped x_o_here x_o_fault x_o_open x_o_laid x_o_hasLaw x_o_bestMany x_o_wasAt x_o_wasNight x_o_hasImage x_o_keptLamps x_o_keptAt x_o_keptNight x_o_keptSpent x_o_bodies x_o_traces (v1 ^^^ ((1 : Int32) <<< (v5 &&& 31))) v2 (v3 ||| ((1 : Int32) <<< ((v1 ^^^ ((1 : Int32) <<< (v5 &&& 31))) &&& 31))) (v4 + (1 : Int32)) x_o_lamps (upd x_o_way (Int32.toNatClampNeg v4) v5) _ _ hc3) yy_Mo_goesThrough kf_Mo rfl mw_6_111 d_Mo_goesThrough_85 rfl [] rfl rfl (Nat.le_of_ble_eq_true rfl) ⟨(by show fr + 1 ≤ fr + 1; omega), (by show 8 + (7 + 11) + (lo) ≤ lo + 26; omega)⟩ rfl rfl (Nat.zero_le _) (Nat.zero_le _) 0 rfl [0, 1] rfl (by decide +kernel) rfl (g_lay_sel _ _ _ _ [(0, true), (1, true)] (by decide +kernel) rfl (by decide +kernel) rfl rfl) rfl ?_
        refine g_if_eqb (pc' := 91) (tgt := 93) C d_Mo_goesThrough_88 rfl rfl (fun h => ?_) (fun h => ?_)
        · replace hf := g_bf h hf
          refine g_lv (lv' := [(0, .ref a_o), (1, .int v1), (2, .int v2), (3, .int v3), (4, .int v4), (5, .int v5)]) [1, 2, 3, 4, 5, 6] rfl ?_
          exact w_Mo_goesThrough_L93 (a_o := a_o) (a_o_had := a_o_had) (a_o_told := a_o_told) (a_o_barred := a_o_barred) (a_o_cost := a_o_cost) (a_o_last := a_o_last) (a_o_often := a_o_often) (a_o_changeOf := a_o_changeOf) (a_o_changeAt := a_o_changeAt) (a_o_before := a_o_before) (a_o_behind := a_o_behind) (a_o_tape := a_o_tape) (a_o_act := a_o_act) (a_o_with := a_o_with) (a_o_lineMany := a_o_lineMany) (a_o_testEnd := a_o_testEnd) (a_o_lineEnd := a_o_lineEnd) (a_o_facts := a_o_facts) (a_o_pile := a_o_pile) (a_o_way := a_o_way) (a_o_bestWay := a_o_bestWay) (a_o_wasHad := a_o_wasHad) (a_o_wasLast := a_o_wasLast) (a_o_keptHad := a_o_keptHad) (a_o_keptTold := a_o_keptTold) (a_o_keptLast := a_o_keptLast) (a_o_keptOften := a_o_keptOften) (a_o_kind := a_o_kind) (a_o_traced := a_o_traced) (a_o_holds := a_o_holds) (a_o_size := a_o_size) (a_o_elements := a_o_elements) (a_o_shifted := a_o_shifted) C  rec_Mo_goesThrough hrec_Mo_goesThrough (f_Mo_goesThrough_L32 rec_Mo_goesThrough n) ih v1 v2 v3 v4 v5 x_o_lamps u2 hf
        · replace hf := g_bt h hf
          refine g_iconst (pc' := 92) (v := 1) C d_Mo_goesThrough_91 rfl rfl ?_
          replace hf := g_o2 hf; obtain ⟨h1, hf⟩ := hf; subst h1
          replace hf := Option.some.inj hf; subst hf
          exact g_zret C d_Mo_goesThrough_92 () rfl
      · replace hf := g_ip h hf
        refine g_goto (tgt := 93) C d_Mo_goesThrough_59 rfl ?_
        refine g_lv (lv' := [(0, .ref a_o), (1, .int v1), (2, .int v2), (3, .int v3), (4, .int v4), (5, .int v5)]) [1, 2, 3, 4, 5, 6] rfl ?_
        exact w_Mo_goesThrough_L93 (a_o := a_o) (a_o_had := a_o_had) (a_o_told := a_o_told) (a_o_barred := a_o_barred) (a_o_cost := a_o_cost) (a_o_last := a_o_last) (a_o_often := a_o_often) (a_o_changeOf := a_o_changeOf) (a_o_changeAt := a_o_changeAt) (a_o_before := a_o_before) (a_o_behind := a_o_behind) (a_o_tape := a_o_tape) (a_o_act := a_o_act) (a_o_with := a_o_with) (a_o_lineMany := a_o_lineMany) (a_o_testEnd := a_o_testEnd) (a_o_lineEnd := a_o_lineEnd) (a_o_facts := a_o_facts) (a_o_pile := a_o_pile) (a_o_way := a_o_way) (a_o_bestWay := a_o_bestWay) (a_o_wasHad := a_o_wasHad) (a_o_wasLast := a_o_wasLast) (a_o_keptHad := a_o_keptHad) (a_o_keptTold := a_o_keptTold) (a_o_keptLast := a_o_keptLast) (a_o_keptOften := a_o_keptOften) (a_o_kind := a_o_kind) (a_o_traced := a_o_traced) (a_o_holds := a_o_holds) (a_o_size := a_o_size) (a_o_elements := a_o_elements) (a_o_shifted := a_o_shifted) C  rec_Mo_goesThrough hrec_Mo_goesThrough (f_Mo_goesThrough_L32 rec_Mo_goesThrough n) ih v1 v2 v3 v4 v5 x_o_lamps x_o_way hf
def f_Mo_goesThrough_body (rec_Mo_goesThrough : Int32 → Int32 → Int32 → Int32 → Int32 → (Nat → Int32) → Option (Bool × (Nat → Int32))) (p1 : Int32) (p2 : Int32) (p3 : Int32) (p4 : Int32) (x_o_lamps : Int32) (x_o_way : Nat → Int32) : Option (Bool × (Nat → Int32)) :=
  (f_Mo_pictures  x_o_lamps).bind fun r4 =>
  if p4 = (r4 - (1 : Int32)) then
    (if p1 = p2 then
      (some (true, x_o_way))
    else
      (some (false, x_o_way)))
  else
    (if p1 = p2 then
      (some (false, x_o_way))
    else
      (f_Mo_goesThrough_L32 rec_Mo_goesThrough 3000 p1 p2 p3 p4 (0 : Int32) x_o_lamps x_o_way))
set_option maxRecDepth 20000 in
theorem c_Mo_goesThrough_body {l : Launch} {D : va_G} {dA : Nat → ClassId} {a_o a_o_had a_o_told a_o_barred a_o_cost a_o_last a_o_often a_o_changeOf a_o_changeAt a_o_before a_o_behind a_o_tape a_o_act a_o_with a_o_lineMany a_o_testEnd a_o_lineEnd a_o_facts a_o_pile a_o_way a_o_bestWay a_o_wasHad a_o_wasLast a_o_keptHad a_o_keptTold a_o_keptLast a_o_keptOften a_o_kind a_o_traced a_o_holds a_o_size a_o_elements a_o_shifted : Nat} {x_o_code : Int32} {x_o_at : Int32} {x_o_night : Int32} {x_o_spent : Int32} {x_o_rest : Int32} {x_o_shy : Int32} {x_o_hasBegun : Bool} {x_o_doneMany : Int32} {x_o_undoneMany : Int32} {x_o_taped : Int32} {x_o_here : Int32} {x_o_fault : Int32} {x_o_open : Int32} {x_o_laid : Int32} {x_o_hasLaw : Bool} {x_o_bestMany : Int32} {x_o_wasAt : Int32} {x_o_wasNight : Int32} {x_o_hasImage : Bool} {x_o_keptLamps : Int32} {x_o_keptAt : Int32} {x_o_keptNight : Int32} {x_o_keptSpent : Int32} {x_o_bodies : Int32} {x_o_traces : Int32} {p1 : Int32} {p2 : Int32} {p3 : Int32} {p4 : Int32} {x_o_lamps : Int32} {x_o_way : Nat → Int32} {r0 : Bool} {o_x_o_way : Nat → Int32} {fr lo : Nat} (rec_Mo_goesThrough : Int32 → Int32 → Int32 → Int32 → Int32 → (Nat → Int32) → Option (Bool × (Nat → Int32))) (hrec_Mo_goesThrough : ∀ (a_o : Nat) (a_o_had : Nat) (a_o_told : Nat) (a_o_barred : Nat) (a_o_cost : Nat) (a_o_last : Nat) (a_o_often : Nat) (a_o_changeOf : Nat) (a_o_changeAt : Nat) (a_o_before : Nat) (a_o_behind : Nat) (a_o_tape : Nat) (a_o_act : Nat) (a_o_with : Nat) (a_o_lineMany : Nat) (a_o_testEnd : Nat) (a_o_lineEnd : Nat) (a_o_facts : Nat) (a_o_pile : Nat) (a_o_way : Nat) (a_o_bestWay : Nat) (a_o_wasHad : Nat) (a_o_wasLast : Nat) (a_o_keptHad : Nat) (a_o_keptTold : Nat) (a_o_keptLast : Nat) (a_o_keptOften : Nat) (a_o_kind : Nat) (a_o_traced : Nat) (a_o_holds : Nat) (a_o_size : Nat) (a_o_elements : Nat) (a_o_shifted : Nat) (x_o_code : Int32) (x_o_at : Int32) (x_o_night : Int32) (x_o_spent : Int32) (x_o_rest : Int32) (x_o_shy : Int32) (x_o_hasBegun : Bool) (x_o_doneMany : Int32) (x_o_undoneMany : Int32) (x_o_taped : Int32) (x_o_here : Int32) (x_o_fault : Int32) (x_o_open : Int32) (x_o_laid : Int32) (x_o_hasLaw : Bool) (x_o_bestMany : Int32) (x_o_wasAt : Int32) (x_o_wasNight : Int32) (x_o_hasImage : Bool) (x_o_keptLamps : Int32) (x_o_keptAt : Int32) (x_o_keptNight : Int32) (x_o_keptSpent : Int32) (x_o_bodies : Int32) (x_o_traces : Int32) (p1 : Int32) (p2 : Int32) (p3 : Int32) (p4 : Int32) (x_o_lamps : Int32) (x_o_way : Nat → Int32) (r0 : Bool) (o_x_o_way : Nat → Int32), rec_Mo_goesThrough p1 p2 p3 p4 x_o_lamps x_o_way = some (r0, o_x_o_way) → CT l y_Mo_goesThrough prog_13_method_71_code 7 (some .boolean) { frames := fr, cells := 0, slots := 0, locals := lo } D dA [.ref a_o, .int p1, .int p2, .int p3, .int p4] [O_Mo a_o x_o_code x_o_lamps x_o_at x_o_night x_o_spent x_o_rest x_o_shy a_o_had a_o_told a_o_barred a_o_cost a_o_last a_o_often x_o_hasBegun x_o_doneMany x_o_undoneMany a_o_changeOf a_o_changeAt a_o_before a_o_behind a_o_tape x_o_taped x_o_here x_o_fault x_o_open x_o_laid a_o_act a_o_with a_o_lineMany a_o_testEnd a_o_lineEnd a_o_facts a_o_pile x_o_hasLaw a_o_way a_o_bestWay x_o_bestMany a_o_wasHad a_o_wasLast x_o_wasAt x_o_wasNight x_o_hasImage x_o_keptLamps x_o_keptAt x_o_keptNight x_o_keptSpent a_o_keptHad a_o_keptTold a_o_keptLast a_o_keptOften x_o_bodies a_o_kind x_o_traces a_o_traced a_o_holds a_o_size a_o_elements a_o_shifted, A_I dA a_o_way 16 x_o_way] (some (.int (b2i r0))) (fun _ : Unit => [O_Mo a_o x_o_code x_o_lamps x_o_at x_o_night x_o_spent x_o_rest x_o_shy a_o_had a_o_told a_o_barred a_o_cost a_o_last a_o_often x_o_hasBegun x_o_doneMany x_o_undoneMany a_o_changeOf a_o_changeAt a_o_before a_o_behind a_o_tape x_o_taped x_o_here x_o_fault x_o_open x_o_laid a_o_act a_o_with a_o_lineMany a_o_testEnd a_o_lineEnd a_o_facts a_o_pile x_o_hasLaw a_o_way a_o_bestWay x_o_bestMany a_o_wasHad a_o_wasLast x_o_wasAt x_o_wasNight x_o_hasImage x_o_keptLamps x_o_keptAt x_o_keptNight x_o_keptSpent a_o_keptHad a_o_keptTold a_o_keptLast a_o_keptOften x_o_bodies a_o_kind x_o_traces a_o_traced a_o_holds a_o_size a_o_elements a_o_shifted, A_I dA a_o_way 16 o_x_o_way]))  (hf : f_Mo_goesThrough_body rec_Mo_goesThrough p1 p2 p3 p4 x_o_lamps x_o_way = some (r0, o_x_o_way)) : CT l y_Mo_goesThrough prog_13_method_71_code 7 (some .boolean) { frames := fr + 1, cells := 0, slots := 0, locals := lo + 26 } D dA [.ref a_o, .int p1, .int p2, .int p3, .int p4] [O_Mo a_o x_o_code x_o_lamps x_o_at x_o_night x_o_spent x_o_rest x_o_shy a_o_had a_o_told a_o_barred a_o_cost a_o_last a_o_often x_o_hasBegun x_o_doneMany x_o_undoneMany a_o_changeOf a_o_changeAt a_o_before a_o_behind a_o_tape x_o_taped x_o_here x_o_fault x_o_open x_o_laid a_o_act a_o_with a_o_lineMany a_o_testEnd a_o_lineEnd a_o_facts a_o_pile x_o_hasLaw a_o_way a_o_bestWay x_o_bestMany a_o_wasHad a_o_wasLast x_o_wasAt x_o_wasNight x_o_hasImage x_o_keptLamps x_o_keptAt x_o_keptNight x_o_keptSpent a_o_keptHad a_o_keptTold a_o_keptLast a_o_keptOften x_o_bodies a_o_kind x_o_traces a_o_traced a_o_holds a_o_size a_o_elements a_o_shifted, A_I dA a_o_way 16 x_o_way] (some (.int (b2i r0))) (fun _ : Unit => [O_Mo a_o x_o_code x_o_lamps x_o_at x_o_night x_o_spent x_o_rest x_o_shy a_o_had a_o_told a_o_barred a_o_cost a_o_last a_o_often x_o_hasBegun x_o_doneMany x_o_undoneMany a_o_changeOf a_o_changeAt a_o_before a_o_behind a_o_tape x_o_taped x_o_here x_o_fault x_o_open x_o_laid a_o_act a_o_with a_o_lineMany a_o_testEnd a_o_lineEnd a_o_facts a_o_pile x_o_hasLaw a_o_way a_o_bestWay x_o_bestMany a_o_wasHad a_o_wasLast x_o_wasAt x_o_wasNight x_o_hasImage x_o_keptLamps x_o_keptAt x_o_keptNight x_o_keptSpent a_o_keptHad a_o_keptTold a_o_keptLast a_o_keptOften x_o_bodies a_o_kind x_o_traces a_o_traced a_o_holds a_o_size a_o_elements a_o_shifted, A_I dA a_o_way 16 o_x_o_way]) := by
  refine ct_intro "OneLampModel" rfl (by decide +kernel) (Nat.le_of_ble_eq_true rfl) [(0, .ref a_o), (1, .int p1), (2, .int p2), (3, .int p3), (4, .int p4)] rfl (fun _ C => ?_)
  unfold f_Mo_goesThrough_body at hf
  refine g_iload (pc' := 2) C 4 d_Mo_goesThrough_0 rfl rfl ?_
  refine g_aload_n (pc' := 3) C 0 d_Mo_goesThrough_2 rfl rfl ?_
  replace hf := g_bi hf; obtain ⟨r4, hc5, hf⟩ := hf
  refine g_callV (pc' := 6) (st1 := [.int r4, .int p4]) (ws1 := [O_Mo a_o x_o_code x_o_lamps x_o_at x_o_night x_o_spent x_o_rest x_o_shy a_o_had a_o_told a_o_barred a_o_cost a_o_last a_o_often x_o_hasBegun x_o_doneMany x_o_undoneMany a_o_changeOf a_o_changeAt a_o_before a_o_behind a_o_tape x_o_taped x_o_here x_o_fault x_o_open x_o_laid a_o_act a_o_with a_o_lineMany a_o_testEnd a_o_lineEnd a_o_facts a_o_pile x_o_hasLaw a_o_way a_o_bestWay x_o_bestMany a_o_wasHad a_o_wasLast x_o_wasAt x_o_wasNight x_o_hasImage x_o_keptLamps x_o_keptAt x_o_keptNight x_o_keptSpent a_o_keptHad a_o_keptTold a_o_keptLast a_o_keptOften x_o_bodies a_o_kind x_o_traces a_o_traced a_o_holds a_o_size a_o_elements a_o_shifted, A_I dA a_o_way 16 x_o_way]) C (c_Mo_pictures (l := l) (D := D) (dA := dA) (a_o := a_o) (a_o_had := a_o_had) (a_o_told := a_o_told) (a_o_barred := a_o_barred) (a_o_cost := a_o_cost) (a_o_last := a_o_last) (a_o_often := a_o_often) (a_o_changeOf := a_o_changeOf) (a_o_changeAt := a_o_changeAt) (a_o_before := a_o_before) (a_o_behind := a_o_behind) (a_o_tape := a_o_tape) (a_o_act := a_o_act) (a_o_with := a_o_with) (a_o_lineMany := a_o_lineMany) (a_o_testEnd := a_o_testEnd) (a_o_lineEnd := a_o_lineEnd) (a_o_facts := a_o_facts) (a_o_pile := a_o_pile) (a_o_way := a_o_way) (a_o_bestWay := a_o_bestWay) (a_o_wasHad := a_o_wasHad) (a_o_wasLast := a_o_wasLast) (a_o_keptHad := a_o_keptHad) (a_o_keptTold := a_o_keptTold) (a_o_keptLast := a_o_keptLast) (a_o_keptOften := a_o_keptOften) (a_o_kind := a_o_kind) (a_o_traced := a_o_traced) (a_o_holds := a_o_holds) (a_o_size := a_o_size) (a_o_elements := a_o_elements) (a_o_shifted := a_o_shifted) (x_o_code := x_o_code) (x_o_at := x_o_at) (x_o_night := x_o_night) (x_o_spent := x_o_spent) (x_o_rest := x_o_rest) (x_o_shy := x_o_shy) (x_o_hasBegun := x_o_hasBegun) (x_o_doneMany := x_o_doneMany) (x_o_undoneMany := x_o_undoneMany) (x_o_taped := x_o_taped) (x_o_here := x_o_here) (x_o_fault := x_o_fault) (x_o_open := x_o_open) (x_o_laid := x_o_laid) (x_o_hasLaw := x_o_hasLaw) (x_o_bestMany := x_o_bestMany) (x_o_wasAt := x_o_wasAt) (x_o_wasNight := x_o_wasNight) (x_o_hasImage := x_o_hasImage) (x_o_keptLamps := x_o_keptLamps) (x_o_keptAt := x_o_keptAt) (x_o_keptNight := x_o_keptNight) (x_o_keptSpent := x_o_keptSpent) (x_o_bodies := x_o_bodies) (x_o_traces := x_o_traces)   hc5) yy_Mo_pictures kf_Mo rfl mw_5_95 d_Mo_goesThrough_3 rfl [.int p4] rfl rfl (Nat.le_of_ble_eq_true rfl) ⟨(by show 0 + 1 ≤ fr + 1; omega), (by show 8 + (1 + 11) + (0) ≤ lo + 26; omega)⟩ rfl rfl (Nat.zero_le _) (Nat.zero_le _) 0 rfl [0] rfl (by decide +kernel) rfl (g_lay_sel _ _ _ _ [(0, true), (1, false)] (by decide +kernel) rfl (by decide +kernel) rfl rfl) rfl ?_
  refine g_iconst (pc' := 7) (v := 1) C d_Mo_goesThrough_6 rfl rfl ?_
  refine g_isub (pc' := 8) C d_Mo_goesThrough_7 rfl ?_
  refine g_icmp_ne (pc' := 11) (tgt := 22) C d_Mo_goesThrough_8 rfl rfl (fun h => ?_) (fun h => ?_)
  · replace hf := g_in h hf
    refine g_iload_n (pc' := 23) C 1 d_Mo_goesThrough_22 rfl rfl ?_
    refine g_iload_n (pc' := 24) C 2 d_Mo_goesThrough_23 rfl rfl ?_
    refine g_icmp_ne (pc' := 27) (tgt := 29) C d_Mo_goesThrough_24 rfl rfl (fun h => ?_) (fun h => ?_)
    · replace hf := g_in h hf
      refine g_iconst (pc' := 30) (v := 0) C d_Mo_goesThrough_29 rfl rfl ?_
      refine g_istore (pc' := 32) (lv' := [(5, .int 0), (0, .ref a_o), (1, .int p1), (2, .int p2), (3, .int p3), (4, .int p4)]) C d_Mo_goesThrough_30 rfl (by decide) rfl ?_
      refine g_lv (lv' := [(0, .ref a_o), (1, .int p1), (2, .int p2), (3, .int p3), (4, .int p4), (5, .int (0 : Int32))]) [1, 2, 3, 4, 5, 0] rfl ?_
      exact w_Mo_goesThrough_L32 (a_o := a_o) (a_o_had := a_o_had) (a_o_told := a_o_told) (a_o_barred := a_o_barred) (a_o_cost := a_o_cost) (a_o_last := a_o_last) (a_o_often := a_o_often) (a_o_changeOf := a_o_changeOf) (a_o_changeAt := a_o_changeAt) (a_o_before := a_o_before) (a_o_behind := a_o_behind) (a_o_tape := a_o_tape) (a_o_act := a_o_act) (a_o_with := a_o_with) (a_o_lineMany := a_o_lineMany) (a_o_testEnd := a_o_testEnd) (a_o_lineEnd := a_o_lineEnd) (a_o_facts := a_o_facts) (a_o_pile := a_o_pile) (a_o_way := a_o_way) (a_o_bestWay := a_o_bestWay) (a_o_wasHad := a_o_wasHad) (a_o_wasLast := a_o_wasLast) (a_o_keptHad := a_o_keptHad) (a_o_keptTold := a_o_keptTold) (a_o_keptLast := a_o_keptLast) (a_o_keptOften := a_o_keptOften) (a_o_kind := a_o_kind) (a_o_traced := a_o_traced) (a_o_holds := a_o_holds) (a_o_size := a_o_size) (a_o_elements := a_o_elements) (a_o_shifted := a_o_shifted) C  rec_Mo_goesThrough hrec_Mo_goesThrough 3000 p1 p2 p3 p4 (0 : Int32) x_o_lamps x_o_way hf
    · replace hf := g_ip h hf
      refine g_iconst (pc' := 28) (v := 0) C d_Mo_goesThrough_27 rfl rfl ?_
      replace hf := g_o2 hf; obtain ⟨h1, hf⟩ := hf; subst h1
      replace hf := Option.some.inj hf; subst hf
      exact g_zret C d_Mo_goesThrough_28 () rfl
  · replace hf := g_ip h hf
    refine g_iload_n (pc' := 12) C 1 d_Mo_goesThrough_11 rfl rfl ?_
    refine g_iload_n (pc' := 13) C 2 d_Mo_goesThrough_12 rfl rfl ?_
    refine g_icmp_ne (pc' := 16) (tgt := 20) C d_Mo_goesThrough_13 rfl rfl (fun h => ?_) (fun h => ?_)
    · replace hf := g_in h hf
      refine g_iconst (pc' := 21) (v := 0) C d_Mo_goesThrough_20 rfl rfl ?_
      replace hf := g_o2 hf; obtain ⟨h1, hf⟩ := hf; subst h1
      replace hf := Option.some.inj hf; subst hf
      exact g_zret C d_Mo_goesThrough_21 () rfl
    · replace hf := g_ip h hf
      refine g_iconst (pc' := 17) (v := 1) C d_Mo_goesThrough_16 rfl rfl ?_
      refine g_goto (tgt := 21) C d_Mo_goesThrough_17 rfl ?_
      replace hf := g_o2 hf; obtain ⟨h1, hf⟩ := hf; subst h1
      replace hf := Option.some.inj hf; subst hf
      exact g_zret C d_Mo_goesThrough_21 () rfl
def f_Mo_goesThrough  : Nat → Int32 → Int32 → Int32 → Int32 → Int32 → (Nat → Int32) → Option (Bool × (Nat → Int32))
  | 0, _, _, _, _, _, _ => none
  | n + 1, p1, p2, p3, p4, x_o_lamps, x_o_way => f_Mo_goesThrough_body (f_Mo_goesThrough  n) p1 p2 p3 p4 x_o_lamps x_o_way
set_option maxRecDepth 20000 in
theorem c_Mo_goesThrough {l : Launch} {D : va_G} {dA : Nat → ClassId}  : ∀ (n : Nat), ∀ (a_o : Nat) (a_o_had : Nat) (a_o_told : Nat) (a_o_barred : Nat) (a_o_cost : Nat) (a_o_last : Nat) (a_o_often : Nat) (a_o_changeOf : Nat) (a_o_changeAt : Nat) (a_o_before : Nat) (a_o_behind : Nat) (a_o_tape : Nat) (a_o_act : Nat) (a_o_with : Nat) (a_o_lineMany : Nat) (a_o_testEnd : Nat) (a_o_lineEnd : Nat) (a_o_facts : Nat) (a_o_pile : Nat) (a_o_way : Nat) (a_o_bestWay : Nat) (a_o_wasHad : Nat) (a_o_wasLast : Nat) (a_o_keptHad : Nat) (a_o_keptTold : Nat) (a_o_keptLast : Nat) (a_o_keptOften : Nat) (a_o_kind : Nat) (a_o_traced : Nat) (a_o_holds : Nat) (a_o_size : Nat) (a_o_elements : Nat) (a_o_shifted : Nat) (x_o_code : Int32) (x_o_at : Int32) (x_o_night : Int32) (x_o_spent : Int32) (x_o_rest : Int32) (x_o_shy : Int32) (x_o_hasBegun : Bool) (x_o_doneMany : Int32) (x_o_undoneMany : Int32) (x_o_taped : Int32) (x_o_here : Int32) (x_o_fault : Int32) (x_o_open : Int32) (x_o_laid : Int32) (x_o_hasLaw : Bool) (x_o_bestMany : Int32) (x_o_wasAt : Int32) (x_o_wasNight : Int32) (x_o_hasImage : Bool) (x_o_keptLamps : Int32) (x_o_keptAt : Int32) (x_o_keptNight : Int32) (x_o_keptSpent : Int32) (x_o_bodies : Int32) (x_o_traces : Int32) (p1 : Int32) (p2 : Int32) (p3 : Int32) (p4 : Int32) (x_o_lamps : Int32) (x_o_way : Nat → Int32) (r0 : Bool) (o_x_o_way : Nat → Int32), f_Mo_goesThrough  n p1 p2 p3 p4 x_o_lamps x_o_way = some (r0, o_x_o_way) → CT l y_Mo_goesThrough prog_13_method_71_code 7 (some .boolean) { frames := 1 * n, cells := 0, slots := 0, locals := 26 * n } D dA [.ref a_o, .int p1, .int p2, .int p3, .int p4] [O_Mo a_o x_o_code x_o_lamps x_o_at x_o_night x_o_spent x_o_rest x_o_shy a_o_had a_o_told a_o_barred a_o_cost a_o_last a_o_often x_o_hasBegun x_o_doneMany x_o_undoneMany a_o_changeOf a_o_changeAt a_o_before a_o_behind a_o_tape x_o_taped x_o_here x_o_fault x_o_open x_o_laid a_o_act a_o_with a_o_lineMany a_o_testEnd a_o_lineEnd a_o_facts a_o_pile x_o_hasLaw a_o_way a_o_bestWay x_o_bestMany a_o_wasHad a_o_wasLast x_o_wasAt x_o_wasNight x_o_hasImage x_o_keptLamps x_o_keptAt x_o_keptNight x_o_keptSpent a_o_keptHad a_o_keptTold a_o_keptLast a_o_keptOften x_o_bodies a_o_kind x_o_traces a_o_traced a_o_holds a_o_size a_o_elements a_o_shifted, A_I dA a_o_way 16 x_o_way] (some (.int (b2i r0))) (fun _ : Unit => [O_Mo a_o x_o_code x_o_lamps x_o_at x_o_night x_o_spent x_o_rest x_o_shy a_o_had a_o_told a_o_barred a_o_cost a_o_last a_o_often x_o_hasBegun x_o_doneMany x_o_undoneMany a_o_changeOf a_o_changeAt a_o_before a_o_behind a_o_tape x_o_taped x_o_here x_o_fault x_o_open x_o_laid a_o_act a_o_with a_o_lineMany a_o_testEnd a_o_lineEnd a_o_facts a_o_pile x_o_hasLaw a_o_way a_o_bestWay x_o_bestMany a_o_wasHad a_o_wasLast x_o_wasAt x_o_wasNight x_o_hasImage x_o_keptLamps x_o_keptAt x_o_keptNight x_o_keptSpent a_o_keptHad a_o_keptTold a_o_keptLast a_o_keptOften x_o_bodies a_o_kind x_o_traces a_o_traced a_o_holds a_o_size a_o_elements a_o_shifted, A_I dA a_o_way 16 o_x_o_way]) := by
  intro n
  induction n with
  | zero =>
    intro a_o a_o_had a_o_told a_o_barred a_o_cost a_o_last a_o_often a_o_changeOf a_o_changeAt a_o_before a_o_behind a_o_tape a_o_act a_o_with a_o_lineMany a_o_testEnd a_o_lineEnd a_o_facts a_o_pile a_o_way a_o_bestWay a_o_wasHad a_o_wasLast a_o_keptHad a_o_keptTold a_o_keptLast a_o_keptOften a_o_kind a_o_traced a_o_holds a_o_size a_o_elements a_o_shifted x_o_code x_o_at x_o_night x_o_spent x_o_rest x_o_shy x_o_hasBegun x_o_doneMany x_o_undoneMany x_o_taped x_o_here x_o_fault x_o_open x_o_laid x_o_hasLaw x_o_bestMany x_o_wasAt x_o_wasNight x_o_hasImage x_o_keptLamps x_o_keptAt x_o_keptNight x_o_keptSpent x_o_bodies x_o_traces p1 p2 p3 p4 x_o_lamps x_o_way r0 o_x_o_way hf
    cases hf
  | succ n ih =>
    intro a_o a_o_had a_o_told a_o_barred a_o_cost a_o_last a_o_often a_o_changeOf a_o_changeAt a_o_before a_o_behind a_o_tape a_o_act a_o_with a_o_lineMany a_o_testEnd a_o_lineEnd a_o_facts a_o_pile a_o_way a_o_bestWay a_o_wasHad a_o_wasLast a_o_keptHad a_o_keptTold a_o_keptLast a_o_keptOften a_o_kind a_o_traced a_o_holds a_o_size a_o_elements a_o_shifted x_o_code x_o_at x_o_night x_o_spent x_o_rest x_o_shy x_o_hasBegun x_o_doneMany x_o_undoneMany x_o_taped x_o_here x_o_fault x_o_open x_o_laid x_o_hasLaw x_o_bestMany x_o_wasAt x_o_wasNight x_o_hasImage x_o_keptLamps x_o_keptAt x_o_keptNight x_o_keptSpent x_o_bodies x_o_traces p1 p2 p3 p4 x_o_lamps x_o_way r0 o_x_o_way hf
    unfold f_Mo_goesThrough at hf
    refine ct_mono (rm := { frames := (1 * n) + 1, cells := 0, slots := 0, locals := (26 * n) + 26 }) (by show (1 * n) + 1 ≤ 1 * (n + 1); omega) (by show (26 * n) + 26 ≤ 26 * (n + 1); omega) rfl rfl ?_
    exact c_Mo_goesThrough_body (fr := 1 * n) (lo := 26 * n) (f_Mo_goesThrough  n) ih hf
def y_Mo_through : MethodName := ⟨"OneLampModel", "through", "(III)I"⟩
theorem yy_Mo_through : YV y_Mo_through prog_13_method_72_code 5 (some .int) 3 := ⟨mw_6_110, mw_1_12, mw_6_108, mw_6_109, by decide +kernel, by decide +kernel, by decide +kernel⟩
theorem d_Mo_through_0 : decode prog_13_method_72_code 0 = .ok (.aload_n 0, 1) := by decide +kernel
theorem d_Mo_through_1 : decode prog_13_method_72_code 1 = .ok (.iload_n 1, 1) := by decide +kernel
theorem d_Mo_through_2 : decode prog_13_method_72_code 2 = .ok (.invokevirtual 142, 3) := by decide +kernel
theorem d_Mo_through_5 : decode prog_13_method_72_code 5 = .ok (.ifCond .eq 26, 3) := by decide +kernel
theorem d_Mo_through_8 : decode prog_13_method_72_code 8 = .ok (.aload_n 0, 1) := by decide +kernel
theorem d_Mo_through_9 : decode prog_13_method_72_code 9 = .ok (.iload_n 2, 1) := by decide +kernel
theorem d_Mo_through_10 : decode prog_13_method_72_code 10 = .ok (.invokevirtual 142, 3) := by decide +kernel
theorem d_Mo_through_13 : decode prog_13_method_72_code 13 = .ok (.ifCond .eq 18, 3) := by decide +kernel
theorem d_Mo_through_16 : decode prog_13_method_72_code 16 = .ok (.iload_n 3, 1) := by decide +kernel
theorem d_Mo_through_17 : decode prog_13_method_72_code 17 = .ok (.iconst (-1), 1) := by decide +kernel
theorem d_Mo_through_18 : decode prog_13_method_72_code 18 = .ok (.if_icmp .lt 13, 3) := by decide +kernel
theorem d_Mo_through_21 : decode prog_13_method_72_code 21 = .ok (.iload_n 3, 1) := by decide +kernel
theorem d_Mo_through_22 : decode prog_13_method_72_code 22 = .ok (.aload_n 0, 1) := by decide +kernel
theorem d_Mo_through_23 : decode prog_13_method_72_code 23 = .ok (.invokevirtual 117, 3) := by decide +kernel
theorem d_Mo_through_26 : decode prog_13_method_72_code 26 = .ok (.iconst 1, 1) := by decide +kernel
theorem d_Mo_through_27 : decode prog_13_method_72_code 27 = .ok (.isub, 1) := by decide +kernel
theorem d_Mo_through_28 : decode prog_13_method_72_code 28 = .ok (.if_icmp .lt 5, 3) := by decide +kernel
theorem d_Mo_through_31 : decode prog_13_method_72_code 31 = .ok (.iconst (-1), 1) := by decide +kernel
theorem d_Mo_through_32 : decode prog_13_method_72_code 32 = .ok (.ireturn, 1) := by decide +kernel
theorem d_Mo_through_33 : decode prog_13_method_72_code 33 = .ok (.iload_n 1, 1) := by decide +kernel
theorem d_Mo_through_34 : decode prog_13_method_72_code 34 = .ok (.iload_n 2, 1) := by decide +kernel
theorem d_Mo_through_35 : decode prog_13_method_72_code 35 = .ok (.ixor, 1) := by decide +kernel
theorem d_Mo_through_36 : decode prog_13_method_72_code 36 = .ok (.invokestatic 251, 3) := by decide +kernel
theorem d_Mo_through_39 : decode prog_13_method_72_code 39 = .ok (.iconst 2, 1) := by decide +kernel
theorem d_Mo_through_40 : decode prog_13_method_72_code 40 = .ok (.irem, 1) := by decide +kernel
theorem d_Mo_through_41 : decode prog_13_method_72_code 41 = .ok (.iconst 1, 1) := by decide +kernel
theorem d_Mo_through_42 : decode prog_13_method_72_code 42 = .ok (.if_icmp .ne 7, 3) := by decide +kernel
theorem d_Mo_through_45 : decode prog_13_method_72_code 45 = .ok (.iconst 1, 1) := by decide +kernel
theorem d_Mo_through_46 : decode prog_13_method_72_code 46 = .ok (.goto 4, 3) := by decide +kernel
theorem d_Mo_through_49 : decode prog_13_method_72_code 49 = .ok (.iconst 0, 1) := by decide +kernel
theorem d_Mo_through_50 : decode prog_13_method_72_code 50 = .ok (.istore 4, 2) := by decide +kernel
theorem d_Mo_through_52 : decode prog_13_method_72_code 52 = .ok (.iload_n 3, 1) := by decide +kernel
theorem d_Mo_through_53 : decode prog_13_method_72_code 53 = .ok (.ifCond .ge 14, 3) := by decide +kernel
theorem d_Mo_through_56 : decode prog_13_method_72_code 56 = .ok (.iload 4, 2) := by decide +kernel
theorem d_Mo_through_58 : decode prog_13_method_72_code 58 = .ok (.ifCond .eq 7, 3) := by decide +kernel
theorem d_Mo_through_61 : decode prog_13_method_72_code 61 = .ok (.iconst 1, 1) := by decide +kernel
theorem d_Mo_through_62 : decode prog_13_method_72_code 62 = .ok (.goto 4, 3) := by decide +kernel
theorem d_Mo_through_65 : decode prog_13_method_72_code 65 = .ok (.iconst 0, 1) := by decide +kernel
theorem d_Mo_through_66 : decode prog_13_method_72_code 66 = .ok (.ireturn, 1) := by decide +kernel
theorem d_Mo_through_67 : decode prog_13_method_72_code 67 = .ok (.aload_n 0, 1) := by decide +kernel
theorem d_Mo_through_68 : decode prog_13_method_72_code 68 = .ok (.getfield 7, 3) := by decide +kernel
theorem d_Mo_through_71 : decode prog_13_method_72_code 71 = .ok (.iconst 4, 1) := by decide +kernel
theorem d_Mo_through_72 : decode prog_13_method_72_code 72 = .ok (.if_icmp .le 6, 3) := by decide +kernel
theorem d_Mo_through_75 : decode prog_13_method_72_code 75 = .ok (.bipush (-5), 2) := by decide +kernel
theorem d_Mo_through_77 : decode prog_13_method_72_code 77 = .ok (.ireturn, 1) := by decide +kernel
theorem d_Mo_through_78 : decode prog_13_method_72_code 78 = .ok (.iload 4, 2) := by decide +kernel
theorem d_Mo_through_80 : decode prog_13_method_72_code 80 = .ok (.ifCond .ne 6, 3) := by decide +kernel
theorem d_Mo_through_83 : decode prog_13_method_72_code 83 = .ok (.bipush (-2), 2) := by decide +kernel
theorem d_Mo_through_85 : decode prog_13_method_72_code 85 = .ok (.ireturn, 1) := by decide +kernel
theorem d_Mo_through_86 : decode prog_13_method_72_code 86 = .ok (.aload_n 0, 1) := by decide +kernel
theorem d_Mo_through_87 : decode prog_13_method_72_code 87 = .ok (.iload_n 1, 1) := by decide +kernel
theorem d_Mo_through_88 : decode prog_13_method_72_code 88 = .ok (.iload_n 2, 1) := by decide +kernel
theorem d_Mo_through_89 : decode prog_13_method_72_code 89 = .ok (.iconst 1, 1) := by decide +kernel
theorem d_Mo_through_90 : decode prog_13_method_72_code 90 = .ok (.iload_n 1, 1) := by decide +kernel
theorem d_Mo_through_91 : decode prog_13_method_72_code 91 = .ok (.ishl, 1) := by decide +kernel
theorem d_Mo_through_92 : decode prog_13_method_72_code 92 = .ok (.iconst 0, 1) := by decide +kernel
theorem d_Mo_through_93 : decode prog_13_method_72_code 93 = .ok (.invokevirtual 329, 3) := by decide +kernel
theorem d_Mo_through_96 : decode prog_13_method_72_code 96 = .ok (.ifCond .eq 12, 3) := by decide +kernel
theorem d_Mo_through_99 : decode prog_13_method_72_code 99 = .ok (.aload_n 0, 1) := by decide +kernel
theorem d_Mo_through_100 : decode prog_13_method_72_code 100 = .ok (.getfield 71, 3) := by decide +kernel
theorem d_Mo_through_103 : decode prog_13_method_72_code 103 = .ok (.iload_n 3, 1) := by decide +kernel
theorem d_Mo_through_104 : decode prog_13_method_72_code 104 = .ok (.iaload, 1) := by decide +kernel
theorem d_Mo_through_105 : decode prog_13_method_72_code 105 = .ok (.goto 5, 3) := by decide +kernel
theorem d_Mo_through_108 : decode prog_13_method_72_code 108 = .ok (.bipush (-2), 2) := by decide +kernel
theorem d_Mo_through_110 : decode prog_13_method_72_code 110 = .ok (.ireturn, 1) := by decide +kernel
def f_Mo_through_L50   (v1 : Int32) (v2 : Int32) (v3 : Int32) (s0 : Bool) (x_o_lamps : Int32) (x_o_way : Nat → Int32) : Option (Int32 × (Nat → Int32)) :=
  if 0 ≤ v3 then
    (if x_o_lamps ≤ (4 : Int32) then
      (if s0 = true then
        ((f_Mo_goesThrough  20 v1 v2 ((1 : Int32) <<< (v1 &&& 31)) (0 : Int32) x_o_lamps x_o_way).bind fun (r1, u2) =>
        if r1 = true then
          (if v3 < 0 ∨ 16 ≤ Int32.toNatClampNeg v3 then none else
          some ((u2 (Int32.toNatClampNeg v3)), u2))
        else
          (some ((-2 : Int32), u2)))
      else
        (some ((-2 : Int32), x_o_way)))
    else
      (some ((-5 : Int32), x_o_way)))
  else
    (if s0 = true then
      (some ((1 : Int32), x_o_way))
    else
      (some ((0 : Int32), x_o_way)))
set_option maxRecDepth 20000 in
theorem w_Mo_through_L50 {p : Program} {l : Launch} {e : Env} {s : State} {m : MethodId} {args : Array Value} {below : List Frame} {meth : Method} {c : Code} {D : va_G} {dA : Nat → ClassId} {A : Nat → Prop} (C : GC p s m args meth c prog_13_method_72_code 5 "OneLampModel" (some .int) D dA A) {a_o a_o_had a_o_told a_o_barred a_o_cost a_o_last a_o_often a_o_changeOf a_o_changeAt a_o_before a_o_behind a_o_tape a_o_act a_o_with a_o_lineMany a_o_testEnd a_o_lineEnd a_o_facts a_o_pile a_o_way a_o_bestWay a_o_wasHad a_o_wasLast a_o_keptHad a_o_keptTold a_o_keptLast a_o_keptOften a_o_kind a_o_traced a_o_holds a_o_size a_o_elements a_o_shifted : Nat} {x_o_code : Int32} {x_o_at : Int32} {x_o_night : Int32} {x_o_spent : Int32} {x_o_rest : Int32} {x_o_shy : Int32} {x_o_hasBegun : Bool} {x_o_doneMany : Int32} {x_o_undoneMany : Int32} {x_o_taped : Int32} {x_o_here : Int32} {x_o_fault : Int32} {x_o_open : Int32} {x_o_laid : Int32} {x_o_hasLaw : Bool} {x_o_bestMany : Int32} {x_o_wasAt : Int32} {x_o_wasNight : Int32} {x_o_hasImage : Bool} {x_o_keptLamps : Int32} {x_o_keptAt : Int32} {x_o_keptNight : Int32} {x_o_keptSpent : Int32} {x_o_bodies : Int32} {x_o_traces : Int32} {r0 : Int32} {o_x_o_way : Nat → Int32}    (v1 : Int32) (v2 : Int32) (v3 : Int32) (s0 : Bool) (x_o_lamps : Int32) (x_o_way : Nat → Int32) (hf : f_Mo_through_L50   v1 v2 v3 s0 x_o_lamps x_o_way = some (r0, o_x_o_way)) : GG p l e { frames := 21, cells := 0, slots := 0, locals := 546 } s m args below meth c 5 D A 0 0 (MQ below (cQ D A (some (.int r0)) (fun _ : Unit => [O_Mo a_o x_o_code x_o_lamps x_o_at x_o_night x_o_spent x_o_rest x_o_shy a_o_had a_o_told a_o_barred a_o_cost a_o_last a_o_often x_o_hasBegun x_o_doneMany x_o_undoneMany a_o_changeOf a_o_changeAt a_o_before a_o_behind a_o_tape x_o_taped x_o_here x_o_fault x_o_open x_o_laid a_o_act a_o_with a_o_lineMany a_o_testEnd a_o_lineEnd a_o_facts a_o_pile x_o_hasLaw a_o_way a_o_bestWay x_o_bestMany a_o_wasHad a_o_wasLast x_o_wasAt x_o_wasNight x_o_hasImage x_o_keptLamps x_o_keptAt x_o_keptNight x_o_keptSpent a_o_keptHad a_o_keptTold a_o_keptLast a_o_keptOften x_o_bodies a_o_kind x_o_traces a_o_traced a_o_holds a_o_size a_o_elements a_o_shifted, A_I dA a_o_way 16 o_x_o_way])) args s 0 0 A) 50 [(0, .ref a_o), (1, .int v1), (2, .int v2), (3, .int v3)] [.int (b2i s0)] [O_Mo a_o x_o_code x_o_lamps x_o_at x_o_night x_o_spent x_o_rest x_o_shy a_o_had a_o_told a_o_barred a_o_cost a_o_last a_o_often x_o_hasBegun x_o_doneMany x_o_undoneMany a_o_changeOf a_o_changeAt a_o_before a_o_behind a_o_tape x_o_taped x_o_here x_o_fault x_o_open x_o_laid a_o_act a_o_with a_o_lineMany a_o_testEnd a_o_lineEnd a_o_facts a_o_pile x_o_hasLaw a_o_way a_o_bestWay x_o_bestMany a_o_wasHad a_o_wasLast x_o_wasAt x_o_wasNight x_o_hasImage x_o_keptLamps x_o_keptAt x_o_keptNight x_o_keptSpent a_o_keptHad a_o_keptTold a_o_keptLast a_o_keptOften x_o_bodies a_o_kind x_o_traces a_o_traced a_o_holds a_o_size a_o_elements a_o_shifted, A_I dA a_o_way 16 x_o_way] := by
  unfold f_Mo_through_L50 at hf
  refine g_istore (pc' := 52) (lv' := [(4, .int (b2i s0)), (0, .ref a_o), (1, .int v1), (2, .int v2), (3, .int v3)]) C d_Mo_through_50 rfl (by decide) rfl ?_
  refine g_iload_n (pc' := 53) C 4 d_Mo_through_52 rfl rfl ?_
  refine g_if_ge (pc' := 56) (tgt := 67) C d_Mo_through_53 rfl rfl (fun h => ?_) (fun h => ?_)
  · replace hf := g_ip h hf
    refine g_aload_n (pc' := 68) C 1 d_Mo_through_67 rfl rfl ?_
    refine g_get (pc' := 71) C kf_Mo 1 mw_4_139 d_Mo_through_68 rfl 0 rfl (by decide) rfl ?_
    refine g_iconst (pc' := 72) (v := 4) C d_Mo_through_71 rfl rfl ?_
    refine g_icmp_le (pc' := 75) (tgt := 78) C d_Mo_through_72 rfl rfl (fun h => ?_) (fun h => ?_)
    · replace hf := g_ip h hf
      refine g_iload (pc' := 80) C 0 d_Mo_through_78 rfl rfl ?_
      refine g_if_neb (pc' := 83) (tgt := 86) C d_Mo_through_80 rfl rfl (fun h => ?_) (fun h => ?_)
      · replace hf := g_bt h hf
        refine g_aload_n (pc' := 87) C 1 d_Mo_through_86 rfl rfl ?_
        refine g_iload_n (pc' := 88) C 2 d_Mo_through_87 rfl rfl ?_
        refine g_iload_n (pc' := 89) C 3 d_Mo_through_88 rfl rfl ?_
        refine g_iconst (pc' := 90) (v := 1) C d_Mo_through_89 rfl rfl ?_
        refine g_iload_n (pc' := 91) C 2 d_Mo_through_90 rfl rfl ?_
        refine g_ishl (pc' := 92) C d_Mo_through_91 rfl ?_
        refine g_iconst (pc' := 93) (v := 0) C d_Mo_through_92 rfl rfl ?_
        replace hf := g_bi hf; obtain ⟨⟨r1, u2⟩, hc3, hf⟩ := hf
        dsimp only at hf
        refine g_callV (pc' := 96) (st1 := [.int (b2i r1)]) (ws1 := [O_Mo a_o x_o_code x_o_lamps x_o_at x_o_night x_o_spent x_o_rest x_o_shy a_o_had a_o_told a_o_barred a_o_cost a_o_last a_o_often x_o_hasBegun x_o_doneMany x_o_undoneMany a_o_changeOf a_o_changeAt a_o_before a_o_behind a_o_tape x_o_taped x_o_here x_o_fault x_o_open x_o_laid a_o_act a_o_with a_o_lineMany a_o_testEnd a_o_lineEnd a_o_facts a_o_pile x_o_hasLaw a_o_way a_o_bestWay x_o_bestMany a_o_wasHad a_o_wasLast x_o_wasAt x_o_wasNight x_o_hasImage x_o_keptLamps x_o_keptAt x_o_keptNight x_o_keptSpent a_o_keptHad a_o_keptTold a_o_keptLast a_o_keptOften x_o_bodies a_o_kind x_o_traces a_o_traced a_o_holds a_o_size a_o_elements a_o_shifted, A_I dA a_o_way 16 u2]) C (c_Mo_goesThrough (l := l) (D := D) (dA := dA)  20 a_o a_o_had a_o_told a_o_barred a_o_cost a_o_last a_o_often a_o_changeOf a_o_changeAt a_o_before a_o_behind a_o_tape a_o_act a_o_with a_o_lineMany a_o_testEnd a_o_lineEnd a_o_facts a_o_pile a_o_way a_o_bestWay a_o_wasHad a_o_wasLast a_o_keptHad a_o_keptTold a_o_keptLast a_o_keptOften a_o_kind a_o_traced a_o_holds a_o_size a_o_elements a_o_shifted x_o_code x_o_at x_o_night x_o_spent x_o_rest x_o_shy x_o_hasBegun x_o_doneMany x_o_undoneMany x_o_taped x_o_here x_o_fault x_o_open x_o_laid x_o_hasLaw x_o_bestMany x_o_wasAt x_o_wasNight x_o_hasImage x_o_keptLamps x_o_keptAt x_o_keptNight x_o_keptSpent x_o_bodies x_o_traces v1 v2 ((1 : Int32) <<< (v1 &&& 31)) (0 : Int32) x_o_lamps x_o_way _ _ hc3) yy_Mo_goesThrough kf_Mo rfl mw_6_111 d_Mo_through_93 rfl [] rfl rfl (Nat.le_of_ble_eq_true rfl) ⟨Nat.le_of_ble_eq_true rfl, Nat.le_of_ble_eq_true rfl⟩ rfl rfl (Nat.zero_le _) (Nat.zero_le _) 0 rfl [0, 1] rfl (by decide +kernel) rfl (g_lay_sel _ _ _ _ [(0, true), (1, true)] (by decide +kernel) rfl (by decide +kernel) rfl rfl) rfl ?_
        refine g_if_eqb (pc' := 99) (tgt := 108) C d_Mo_through_96 rfl rfl (fun h => ?_) (fun h => ?_)
        · replace hf := g_bf h hf
          refine g_bipush (pc' := 110) (v := (-2)) C d_Mo_through_108 rfl rfl ?_
          replace hf := g_o2 hf; obtain ⟨h1, hf⟩ := hf; subst h1
          replace hf := Option.some.inj hf; subst hf
          exact g_iret C d_Mo_through_110 () rfl
        · replace hf := g_bt h hf
          refine g_aload_n (pc' := 100) C 1 d_Mo_through_99 rfl rfl ?_
          refine g_get (pc' := 103) C kf_Mo 34 mw_4_172 d_Mo_through_100 rfl 0 rfl (by decide) rfl ?_
          refine g_iload_n (pc' := 104) C 4 d_Mo_through_103 rfl rfl ?_
          have hb := g_ck hf
          replace hf := g_in hb hf
          refine g_iald (pc' := 105) C d_Mo_through_104 rfl 1 rfl hb ?_
          refine g_goto (tgt := 110) C d_Mo_through_105 rfl ?_
          replace hf := g_o2 hf; obtain ⟨h1, hf⟩ := hf; subst h1
          replace hf := Option.some.inj hf; subst hf
          exact g_iret C d_Mo_through_110 () rfl
      · replace hf := g_bf h hf
        refine g_bipush (pc' := 85) (v := (-2)) C d_Mo_through_83 rfl rfl ?_
        replace hf := g_o2 hf; obtain ⟨h1, hf⟩ := hf; subst h1
        replace hf := Option.some.inj hf; subst hf
        exact g_iret C d_Mo_through_85 () rfl
    · replace hf := g_in h hf
      refine g_bipush (pc' := 77) (v := (-5)) C d_Mo_through_75 rfl rfl ?_
      replace hf := g_o2 hf; obtain ⟨h1, hf⟩ := hf; subst h1
      replace hf := Option.some.inj hf; subst hf
      exact g_iret C d_Mo_through_77 () rfl
  · replace hf := g_in h hf
    refine g_iload (pc' := 58) C 0 d_Mo_through_56 rfl rfl ?_
    refine g_if_eqb (pc' := 61) (tgt := 65) C d_Mo_through_58 rfl rfl (fun h => ?_) (fun h => ?_)
    · replace hf := g_bf h hf
      refine g_iconst (pc' := 66) (v := 0) C d_Mo_through_65 rfl rfl ?_
      replace hf := g_o2 hf; obtain ⟨h1, hf⟩ := hf; subst h1
      replace hf := Option.some.inj hf; subst hf
      exact g_iret C d_Mo_through_66 () rfl
    · replace hf := g_bt h hf
      refine g_iconst (pc' := 62) (v := 1) C d_Mo_through_61 rfl rfl ?_
      refine g_goto (tgt := 66) C d_Mo_through_62 rfl ?_
      replace hf := g_o2 hf; obtain ⟨h1, hf⟩ := hf; subst h1
      replace hf := Option.some.inj hf; subst hf
      exact g_iret C d_Mo_through_66 () rfl
def f_Mo_through  (p1 : Int32) (p2 : Int32) (p3 : Int32) (x_o_lamps : Int32) (x_o_way : Nat → Int32) : Option (Int32 × (Nat → Int32)) :=
  (f_Mo_isPicture  p1 x_o_lamps).bind fun r4 =>
  if r4 = true then
    ((f_Mo_isPicture  p2 x_o_lamps).bind fun r6 =>
    if r6 = true then
      (if p3 < (-1 : Int32) then
        (some ((-1 : Int32), x_o_way))
      else
        ((f_Mo_pictures  x_o_lamps).bind fun r8 =>
        if p3 < (r8 - (1 : Int32)) then
          ((f_Mo_litOf  (p1 ^^^ p2)).bind fun r10 =>
          if (r10 - r10 / (2 : Int32) * (2 : Int32)) = (1 : Int32) then
            (f_Mo_through_L50  p1 p2 p3 true x_o_lamps x_o_way)
          else
            (f_Mo_through_L50  p1 p2 p3 false x_o_lamps x_o_way))
        else
          (some ((-1 : Int32), x_o_way))))
    else
      (some ((-1 : Int32), x_o_way)))
  else
    (some ((-1 : Int32), x_o_way))
set_option maxRecDepth 20000 in
theorem c_Mo_through {l : Launch} {D : va_G} {dA : Nat → ClassId} {a_o a_o_had a_o_told a_o_barred a_o_cost a_o_last a_o_often a_o_changeOf a_o_changeAt a_o_before a_o_behind a_o_tape a_o_act a_o_with a_o_lineMany a_o_testEnd a_o_lineEnd a_o_facts a_o_pile a_o_way a_o_bestWay a_o_wasHad a_o_wasLast a_o_keptHad a_o_keptTold a_o_keptLast a_o_keptOften a_o_kind a_o_traced a_o_holds a_o_size a_o_elements a_o_shifted : Nat} {x_o_code : Int32} {x_o_at : Int32} {x_o_night : Int32} {x_o_spent : Int32} {x_o_rest : Int32} {x_o_shy : Int32} {x_o_hasBegun : Bool} {x_o_doneMany : Int32} {x_o_undoneMany : Int32} {x_o_taped : Int32} {x_o_here : Int32} {x_o_fault : Int32} {x_o_open : Int32} {x_o_laid : Int32} {x_o_hasLaw : Bool} {x_o_bestMany : Int32} {x_o_wasAt : Int32} {x_o_wasNight : Int32} {x_o_hasImage : Bool} {x_o_keptLamps : Int32} {x_o_keptAt : Int32} {x_o_keptNight : Int32} {x_o_keptSpent : Int32} {x_o_bodies : Int32} {x_o_traces : Int32} {p1 : Int32} {p2 : Int32} {p3 : Int32} {x_o_lamps : Int32} {x_o_way : Nat → Int32} {r0 : Int32} {o_x_o_way : Nat → Int32}   (hf : f_Mo_through  p1 p2 p3 x_o_lamps x_o_way = some (r0, o_x_o_way)) : CT l y_Mo_through prog_13_method_72_code 5 (some .int) { frames := 21, cells := 0, slots := 0, locals := 546 } D dA [.ref a_o, .int p1, .int p2, .int p3] [O_Mo a_o x_o_code x_o_lamps x_o_at x_o_night x_o_spent x_o_rest x_o_shy a_o_had a_o_told a_o_barred a_o_cost a_o_last a_o_often x_o_hasBegun x_o_doneMany x_o_undoneMany a_o_changeOf a_o_changeAt a_o_before a_o_behind a_o_tape x_o_taped x_o_here x_o_fault x_o_open x_o_laid a_o_act a_o_with a_o_lineMany a_o_testEnd a_o_lineEnd a_o_facts a_o_pile x_o_hasLaw a_o_way a_o_bestWay x_o_bestMany a_o_wasHad a_o_wasLast x_o_wasAt x_o_wasNight x_o_hasImage x_o_keptLamps x_o_keptAt x_o_keptNight x_o_keptSpent a_o_keptHad a_o_keptTold a_o_keptLast a_o_keptOften x_o_bodies a_o_kind x_o_traces a_o_traced a_o_holds a_o_size a_o_elements a_o_shifted, A_I dA a_o_way 16 x_o_way] (some (.int r0)) (fun _ : Unit => [O_Mo a_o x_o_code x_o_lamps x_o_at x_o_night x_o_spent x_o_rest x_o_shy a_o_had a_o_told a_o_barred a_o_cost a_o_last a_o_often x_o_hasBegun x_o_doneMany x_o_undoneMany a_o_changeOf a_o_changeAt a_o_before a_o_behind a_o_tape x_o_taped x_o_here x_o_fault x_o_open x_o_laid a_o_act a_o_with a_o_lineMany a_o_testEnd a_o_lineEnd a_o_facts a_o_pile x_o_hasLaw a_o_way a_o_bestWay x_o_bestMany a_o_wasHad a_o_wasLast x_o_wasAt x_o_wasNight x_o_hasImage x_o_keptLamps x_o_keptAt x_o_keptNight x_o_keptSpent a_o_keptHad a_o_keptTold a_o_keptLast a_o_keptOften x_o_bodies a_o_kind x_o_traces a_o_traced a_o_holds a_o_size a_o_elements a_o_shifted, A_I dA a_o_way 16 o_x_o_way]) := by
  refine ct_intro "OneLampModel" rfl (by decide +kernel) (Nat.le_of_ble_eq_true rfl) [(0, .ref a_o), (1, .int p1), (2, .int p2), (3, .int p3)] rfl (fun _ C => ?_)
  unfold f_Mo_through at hf
  refine g_aload_n (pc' := 1) C 0 d_Mo_through_0 rfl rfl ?_
  refine g_iload_n (pc' := 2) C 1 d_Mo_through_1 rfl rfl ?_
  replace hf := g_bi hf; obtain ⟨r4, hc5, hf⟩ := hf
  refine g_callV (pc' := 5) (st1 := [.int (b2i r4)]) (ws1 := [O_Mo a_o x_o_code x_o_lamps x_o_at x_o_night x_o_spent x_o_rest x_o_shy a_o_had a_o_told a_o_barred a_o_cost a_o_last a_o_often x_o_hasBegun x_o_doneMany x_o_undoneMany a_o_changeOf a_o_changeAt a_o_before a_o_behind a_o_tape x_o_taped x_o_here x_o_fault x_o_open x_o_laid a_o_act a_o_with a_o_lineMany a_o_testEnd a_o_lineEnd a_o_facts a_o_pile x_o_hasLaw a_o_way a_o_bestWay x_o_bestMany a_o_wasHad a_o_wasLast x_o_wasAt x_o_wasNight x_o_hasImage x_o_keptLamps x_o_keptAt x_o_keptNight x_o_keptSpent a_o_keptHad a_o_keptTold a_o_keptLast a_o_keptOften x_o_bodies a_o_kind x_o_traces a_o_traced a_o_holds a_o_size a_o_elements a_o_shifted, A_I dA a_o_way 16 x_o_way]) C (c_Mo_isPicture (l := l) (D := D) (dA := dA) (a_o := a_o) (a_o_had := a_o_had) (a_o_told := a_o_told) (a_o_barred := a_o_barred) (a_o_cost := a_o_cost) (a_o_last := a_o_last) (a_o_often := a_o_often) (a_o_changeOf := a_o_changeOf) (a_o_changeAt := a_o_changeAt) (a_o_before := a_o_before) (a_o_behind := a_o_behind) (a_o_tape := a_o_tape) (a_o_act := a_o_act) (a_o_with := a_o_with) (a_o_lineMany := a_o_lineMany) (a_o_testEnd := a_o_testEnd) (a_o_lineEnd := a_o_lineEnd) (a_o_facts := a_o_facts) (a_o_pile := a_o_pile) (a_o_way := a_o_way) (a_o_bestWay := a_o_bestWay) (a_o_wasHad := a_o_wasHad) (a_o_wasLast := a_o_wasLast) (a_o_keptHad := a_o_keptHad) (a_o_keptTold := a_o_keptTold) (a_o_keptLast := a_o_keptLast) (a_o_keptOften := a_o_keptOften) (a_o_kind := a_o_kind) (a_o_traced := a_o_traced) (a_o_holds := a_o_holds) (a_o_size := a_o_size) (a_o_elements := a_o_elements) (a_o_shifted := a_o_shifted) (x_o_code := x_o_code) (x_o_at := x_o_at) (x_o_night := x_o_night) (x_o_spent := x_o_spent) (x_o_rest := x_o_rest) (x_o_shy := x_o_shy) (x_o_hasBegun := x_o_hasBegun) (x_o_doneMany := x_o_doneMany) (x_o_undoneMany := x_o_undoneMany) (x_o_taped := x_o_taped) (x_o_here := x_o_here) (x_o_fault := x_o_fault) (x_o_open := x_o_open) (x_o_laid := x_o_laid) (x_o_hasLaw := x_o_hasLaw) (x_o_bestMany := x_o_bestMany) (x_o_wasAt := x_o_wasAt) (x_o_wasNight := x_o_wasNight) (x_o_hasImage := x_o_hasImage) (x_o_keptLamps := x_o_keptLamps) (x_o_keptAt := x_o_keptAt) (x_o_keptNight := x_o_keptNight) (x_o_keptSpent := x_o_keptSpent) (x_o_bodies := x_o_bodies) (x_o_traces := x_o_traces)   hc5) yy_Mo_isPicture kf_Mo rfl mw_5_91 d_Mo_through_2 rfl [] rfl rfl (Nat.le_of_ble_eq_true rfl) ⟨Nat.le_of_ble_eq_true rfl, Nat.le_of_ble_eq_true rfl⟩ rfl rfl (Nat.zero_le _) (Nat.zero_le _) 0 rfl [0] rfl (by decide +kernel) rfl (g_lay_sel _ _ _ _ [(0, true), (1, false)] (by decide +kernel) rfl (by decide +kernel) rfl rfl) rfl ?_
  refine g_if_eqb (pc' := 8) (tgt := 31) C d_Mo_through_5 rfl rfl (fun h => ?_) (fun h => ?_)
  · replace hf := g_bf h hf
    refine g_iconst (pc' := 32) (v := (-1)) C d_Mo_through_31 rfl rfl ?_
    replace hf := g_o2 hf; obtain ⟨h1, hf⟩ := hf; subst h1
    replace hf := Option.some.inj hf; subst hf
    exact g_iret C d_Mo_through_32 () rfl
  · replace hf := g_bt h hf
    refine g_aload_n (pc' := 9) C 0 d_Mo_through_8 rfl rfl ?_
    refine g_iload_n (pc' := 10) C 2 d_Mo_through_9 rfl rfl ?_
    replace hf := g_bi hf; obtain ⟨r6, hc7, hf⟩ := hf
    refine g_callV (pc' := 13) (st1 := [.int (b2i r6)]) (ws1 := [O_Mo a_o x_o_code x_o_lamps x_o_at x_o_night x_o_spent x_o_rest x_o_shy a_o_had a_o_told a_o_barred a_o_cost a_o_last a_o_often x_o_hasBegun x_o_doneMany x_o_undoneMany a_o_changeOf a_o_changeAt a_o_before a_o_behind a_o_tape x_o_taped x_o_here x_o_fault x_o_open x_o_laid a_o_act a_o_with a_o_lineMany a_o_testEnd a_o_lineEnd a_o_facts a_o_pile x_o_hasLaw a_o_way a_o_bestWay x_o_bestMany a_o_wasHad a_o_wasLast x_o_wasAt x_o_wasNight x_o_hasImage x_o_keptLamps x_o_keptAt x_o_keptNight x_o_keptSpent a_o_keptHad a_o_keptTold a_o_keptLast a_o_keptOften x_o_bodies a_o_kind x_o_traces a_o_traced a_o_holds a_o_size a_o_elements a_o_shifted, A_I dA a_o_way 16 x_o_way]) C (c_Mo_isPicture (l := l) (D := D) (dA := dA) (a_o := a_o) (a_o_had := a_o_had) (a_o_told := a_o_told) (a_o_barred := a_o_barred) (a_o_cost := a_o_cost) (a_o_last := a_o_last) (a_o_often := a_o_often) (a_o_changeOf := a_o_changeOf) (a_o_changeAt := a_o_changeAt) (a_o_before := a_o_before) (a_o_behind := a_o_behind) (a_o_tape := a_o_tape) (a_o_act := a_o_act) (a_o_with := a_o_with) (a_o_lineMany := a_o_lineMany) (a_o_testEnd := a_o_testEnd) (a_o_lineEnd := a_o_lineEnd) (a_o_facts := a_o_facts) (a_o_pile := a_o_pile) (a_o_way := a_o_way) (a_o_bestWay := a_o_bestWay) (a_o_wasHad := a_o_wasHad) (a_o_wasLast := a_o_wasLast) (a_o_keptHad := a_o_keptHad) (a_o_keptTold := a_o_keptTold) (a_o_keptLast := a_o_keptLast) (a_o_keptOften := a_o_keptOften) (a_o_kind := a_o_kind) (a_o_traced := a_o_traced) (a_o_holds := a_o_holds) (a_o_size := a_o_size) (a_o_elements := a_o_elements) (a_o_shifted := a_o_shifted) (x_o_code := x_o_code) (x_o_at := x_o_at) (x_o_night := x_o_night) (x_o_spent := x_o_spent) (x_o_rest := x_o_rest) (x_o_shy := x_o_shy) (x_o_hasBegun := x_o_hasBegun) (x_o_doneMany := x_o_doneMany) (x_o_undoneMany := x_o_undoneMany) (x_o_taped := x_o_taped) (x_o_here := x_o_here) (x_o_fault := x_o_fault) (x_o_open := x_o_open) (x_o_laid := x_o_laid) (x_o_hasLaw := x_o_hasLaw) (x_o_bestMany := x_o_bestMany) (x_o_wasAt := x_o_wasAt) (x_o_wasNight := x_o_wasNight) (x_o_hasImage := x_o_hasImage) (x_o_keptLamps := x_o_keptLamps) (x_o_keptAt := x_o_keptAt) (x_o_keptNight := x_o_keptNight) (x_o_keptSpent := x_o_keptSpent) (x_o_bodies := x_o_bodies) (x_o_traces := x_o_traces)   hc7) yy_Mo_isPicture kf_Mo rfl mw_5_91 d_Mo_through_10 rfl [] rfl rfl (Nat.le_of_ble_eq_true rfl) ⟨Nat.le_of_ble_eq_true rfl, Nat.le_of_ble_eq_true rfl⟩ rfl rfl (Nat.zero_le _) (Nat.zero_le _) 0 rfl [0] rfl (by decide +kernel) rfl (g_lay_sel _ _ _ _ [(0, true), (1, false)] (by decide +kernel) rfl (by decide +kernel) rfl rfl) rfl ?_
    refine g_if_eqb (pc' := 16) (tgt := 31) C d_Mo_through_13 rfl rfl (fun h => ?_) (fun h => ?_)
    · replace hf := g_bf h hf
      refine g_iconst (pc' := 32) (v := (-1)) C d_Mo_through_31 rfl rfl ?_
      replace hf := g_o2 hf; obtain ⟨h1, hf⟩ := hf; subst h1
      replace hf := Option.some.inj hf; subst hf
      exact g_iret C d_Mo_through_32 () rfl
    · replace hf := g_bt h hf
      refine g_iload_n (pc' := 17) C 3 d_Mo_through_16 rfl rfl ?_
      refine g_iconst (pc' := 18) (v := (-1)) C d_Mo_through_17 rfl rfl ?_
      refine g_icmp_lt (pc' := 21) (tgt := 31) C d_Mo_through_18 rfl rfl (fun h => ?_) (fun h => ?_)
      · replace hf := g_ip h hf
        refine g_iconst (pc' := 32) (v := (-1)) C d_Mo_through_31 rfl rfl ?_
        replace hf := g_o2 hf; obtain ⟨h1, hf⟩ := hf; subst h1
        replace hf := Option.some.inj hf; subst hf
        exact g_iret C d_Mo_through_32 () rfl
      · replace hf := g_in h hf
        refine g_iload_n (pc' := 22) C 3 d_Mo_through_21 rfl rfl ?_
        refine g_aload_n (pc' := 23) C 0 d_Mo_through_22 rfl rfl ?_
        replace hf := g_bi hf; obtain ⟨r8, hc9, hf⟩ := hf
        refine g_callV (pc' := 26) (st1 := [.int r8, .int p3]) (ws1 := [O_Mo a_o x_o_code x_o_lamps x_o_at x_o_night x_o_spent x_o_rest x_o_shy a_o_had a_o_told a_o_barred a_o_cost a_o_last a_o_often x_o_hasBegun x_o_doneMany x_o_undoneMany a_o_changeOf a_o_changeAt a_o_before a_o_behind a_o_tape x_o_taped x_o_here x_o_fault x_o_open x_o_laid a_o_act a_o_with a_o_lineMany a_o_testEnd a_o_lineEnd a_o_facts a_o_pile x_o_hasLaw a_o_way a_o_bestWay x_o_bestMany a_o_wasHad a_o_wasLast x_o_wasAt x_o_wasNight x_o_hasImage x_o_keptLamps x_o_keptAt x_o_keptNight x_o_keptSpent a_o_keptHad a_o_keptTold a_o_keptLast a_o_keptOften x_o_bodies a_o_kind x_o_traces a_o_traced a_o_holds a_o_size a_o_elements a_o_shifted, A_I dA a_o_way 16 x_o_way]) C (c_Mo_pictures (l := l) (D := D) (dA := dA) (a_o := a_o) (a_o_had := a_o_had) (a_o_told := a_o_told) (a_o_barred := a_o_barred) (a_o_cost := a_o_cost) (a_o_last := a_o_last) (a_o_often := a_o_often) (a_o_changeOf := a_o_changeOf) (a_o_changeAt := a_o_changeAt) (a_o_before := a_o_before) (a_o_behind := a_o_behind) (a_o_tape := a_o_tape) (a_o_act := a_o_act) (a_o_with := a_o_with) (a_o_lineMany := a_o_lineMany) (a_o_testEnd := a_o_testEnd) (a_o_lineEnd := a_o_lineEnd) (a_o_facts := a_o_facts) (a_o_pile := a_o_pile) (a_o_way := a_o_way) (a_o_bestWay := a_o_bestWay) (a_o_wasHad := a_o_wasHad) (a_o_wasLast := a_o_wasLast) (a_o_keptHad := a_o_keptHad) (a_o_keptTold := a_o_keptTold) (a_o_keptLast := a_o_keptLast) (a_o_keptOften := a_o_keptOften) (a_o_kind := a_o_kind) (a_o_traced := a_o_traced) (a_o_holds := a_o_holds) (a_o_size := a_o_size) (a_o_elements := a_o_elements) (a_o_shifted := a_o_shifted) (x_o_code := x_o_code) (x_o_at := x_o_at) (x_o_night := x_o_night) (x_o_spent := x_o_spent) (x_o_rest := x_o_rest) (x_o_shy := x_o_shy) (x_o_hasBegun := x_o_hasBegun) (x_o_doneMany := x_o_doneMany) (x_o_undoneMany := x_o_undoneMany) (x_o_taped := x_o_taped) (x_o_here := x_o_here) (x_o_fault := x_o_fault) (x_o_open := x_o_open) (x_o_laid := x_o_laid) (x_o_hasLaw := x_o_hasLaw) (x_o_bestMany := x_o_bestMany) (x_o_wasAt := x_o_wasAt) (x_o_wasNight := x_o_wasNight) (x_o_hasImage := x_o_hasImage) (x_o_keptLamps := x_o_keptLamps) (x_o_keptAt := x_o_keptAt) (x_o_keptNight := x_o_keptNight) (x_o_keptSpent := x_o_keptSpent) (x_o_bodies := x_o_bodies) (x_o_traces := x_o_traces)   hc9) yy_Mo_pictures kf_Mo rfl mw_5_95 d_Mo_through_23 rfl [.int p3] rfl rfl (Nat.le_of_ble_eq_true rfl) ⟨Nat.le_of_ble_eq_true rfl, Nat.le_of_ble_eq_true rfl⟩ rfl rfl (Nat.zero_le _) (Nat.zero_le _) 0 rfl [0] rfl (by decide +kernel) rfl (g_lay_sel _ _ _ _ [(0, true), (1, false)] (by decide +kernel) rfl (by decide +kernel) rfl rfl) rfl ?_
        refine g_iconst (pc' := 27) (v := 1) C d_Mo_through_26 rfl rfl ?_
        refine g_isub (pc' := 28) C d_Mo_through_27 rfl ?_
        refine g_icmp_lt (pc' := 31) (tgt := 33) C d_Mo_through_28 rfl rfl (fun h => ?_) (fun h => ?_)
        · replace hf := g_ip h hf
          refine g_iload_n (pc' := 34) C 1 d_Mo_through_33 rfl rfl ?_
          refine g_iload_n (pc' := 35) C 2 d_Mo_through_34 rfl rfl ?_
          refine g_ixor (pc' := 36) C d_Mo_through_35 rfl ?_
          replace hf := g_bi hf; obtain ⟨r10, hc11, hf⟩ := hf
          refine g_callS (pc' := 39) (st1 := [.int r10]) (ws1 := [O_Mo a_o x_o_code x_o_lamps x_o_at x_o_night x_o_spent x_o_rest x_o_shy a_o_had a_o_told a_o_barred a_o_cost a_o_last a_o_often x_o_hasBegun x_o_doneMany x_o_undoneMany a_o_changeOf a_o_changeAt a_o_before a_o_behind a_o_tape x_o_taped x_o_here x_o_fault x_o_open x_o_laid a_o_act a_o_with a_o_lineMany a_o_testEnd a_o_lineEnd a_o_facts a_o_pile x_o_hasLaw a_o_way a_o_bestWay x_o_bestMany a_o_wasHad a_o_wasLast x_o_wasAt x_o_wasNight x_o_hasImage x_o_keptLamps x_o_keptAt x_o_keptNight x_o_keptSpent a_o_keptHad a_o_keptTold a_o_keptLast a_o_keptOften x_o_bodies a_o_kind x_o_traces a_o_traced a_o_holds a_o_size a_o_elements a_o_shifted, A_I dA a_o_way 16 x_o_way]) C (c_Mo_litOf (l := l) (D := D) (dA := dA)    hc11) yy_Mo_litOf mw_5_225 d_Mo_through_36 rfl [] rfl rfl (Nat.le_of_ble_eq_true rfl) ⟨Nat.le_of_ble_eq_true rfl, Nat.le_of_ble_eq_true rfl⟩ rfl rfl (Nat.zero_le _) (Nat.zero_le _) [] rfl (by decide +kernel) rfl (g_lay_sel _ _ _ _ [(0, false), (1, false)] (by decide +kernel) rfl (by decide +kernel) rfl rfl) rfl ?_
          refine g_iconst (pc' := 40) (v := 2) C d_Mo_through_39 rfl rfl ?_
          refine g_irem (pc' := 41) C d_Mo_through_40 rfl (by decide) ?_
          refine g_iconst (pc' := 42) (v := 1) C d_Mo_through_41 rfl rfl ?_
          refine g_icmp_ne (pc' := 45) (tgt := 49) C d_Mo_through_42 rfl rfl (fun h => ?_) (fun h => ?_)
          · replace hf := g_in h hf
            refine g_iconst (pc' := 50) (v := 0) C d_Mo_through_49 rfl rfl ?_
            exact w_Mo_through_L50 (a_o := a_o) (a_o_had := a_o_had) (a_o_told := a_o_told) (a_o_barred := a_o_barred) (a_o_cost := a_o_cost) (a_o_last := a_o_last) (a_o_often := a_o_often) (a_o_changeOf := a_o_changeOf) (a_o_changeAt := a_o_changeAt) (a_o_before := a_o_before) (a_o_behind := a_o_behind) (a_o_tape := a_o_tape) (a_o_act := a_o_act) (a_o_with := a_o_with) (a_o_lineMany := a_o_lineMany) (a_o_testEnd := a_o_testEnd) (a_o_lineEnd := a_o_lineEnd) (a_o_facts := a_o_facts) (a_o_pile := a_o_pile) (a_o_way := a_o_way) (a_o_bestWay := a_o_bestWay) (a_o_wasHad := a_o_wasHad) (a_o_wasLast := a_o_wasLast) (a_o_keptHad := a_o_keptHad) (a_o_keptTold := a_o_keptTold) (a_o_keptLast := a_o_keptLast) (a_o_keptOften := a_o_keptOften) (a_o_kind := a_o_kind) (a_o_traced := a_o_traced) (a_o_holds := a_o_holds) (a_o_size := a_o_size) (a_o_elements := a_o_elements) (a_o_shifted := a_o_shifted) C   p1 p2 p3 false x_o_lamps x_o_way hf
          · replace hf := g_ip h hf
            refine g_iconst (pc' := 46) (v := 1) C d_Mo_through_45 rfl rfl ?_
            refine g_goto (tgt := 50) C d_Mo_through_46 rfl ?_
            exact w_Mo_through_L50 (a_o := a_o) (a_o_had := a_o_had) (a_o_told := a_o_told) (a_o_barred := a_o_barred) (a_o_cost := a_o_cost) (a_o_last := a_o_last) (a_o_often := a_o_often) (a_o_changeOf := a_o_changeOf) (a_o_changeAt := a_o_changeAt) (a_o_before := a_o_before) (a_o_behind := a_o_behind) (a_o_tape := a_o_tape) (a_o_act := a_o_act) (a_o_with := a_o_with) (a_o_lineMany := a_o_lineMany) (a_o_testEnd := a_o_testEnd) (a_o_lineEnd := a_o_lineEnd) (a_o_facts := a_o_facts) (a_o_pile := a_o_pile) (a_o_way := a_o_way) (a_o_bestWay := a_o_bestWay) (a_o_wasHad := a_o_wasHad) (a_o_wasLast := a_o_wasLast) (a_o_keptHad := a_o_keptHad) (a_o_keptTold := a_o_keptTold) (a_o_keptLast := a_o_keptLast) (a_o_keptOften := a_o_keptOften) (a_o_kind := a_o_kind) (a_o_traced := a_o_traced) (a_o_holds := a_o_holds) (a_o_size := a_o_size) (a_o_elements := a_o_elements) (a_o_shifted := a_o_shifted) C   p1 p2 p3 true x_o_lamps x_o_way hf
        · replace hf := g_in h hf
          refine g_iconst (pc' := 32) (v := (-1)) C d_Mo_through_31 rfl rfl ?_
          replace hf := g_o2 hf; obtain ⟨h1, hf⟩ := hf; subst h1
          replace hf := Option.some.inj hf; subst hf
          exact g_iret C d_Mo_through_32 () rfl
def y_Mo_image : MethodName := ⟨"OneLampModel", "image", "()I"⟩
theorem yy_Mo_image : YV y_Mo_image prog_13_method_73_code 2 (some .int) 0 := ⟨mw_6_118, mw_1_12, mw_6_116, mw_6_117, by decide +kernel, by decide +kernel, by decide +kernel⟩
theorem d_Mo_image_0 : decode prog_13_method_73_code 0 = .ok (.aload_n 0, 1) := by decide +kernel
theorem d_Mo_image_1 : decode prog_13_method_73_code 1 = .ok (.invokevirtual 173, 3) := by decide +kernel
theorem d_Mo_image_4 : decode prog_13_method_73_code 4 = .ok (.aload_n 0, 1) := by decide +kernel
theorem d_Mo_image_5 : decode prog_13_method_73_code 5 = .ok (.iconst 1, 1) := by decide +kernel
theorem d_Mo_image_6 : decode prog_13_method_73_code 6 = .ok (.putfield 333, 3) := by decide +kernel
theorem d_Mo_image_9 : decode prog_13_method_73_code 9 = .ok (.aload_n 0, 1) := by decide +kernel
theorem d_Mo_image_10 : decode prog_13_method_73_code 10 = .ok (.aload_n 0, 1) := by decide +kernel
theorem d_Mo_image_11 : decode prog_13_method_73_code 11 = .ok (.getfield 7, 3) := by decide +kernel
theorem d_Mo_image_14 : decode prog_13_method_73_code 14 = .ok (.putfield 336, 3) := by decide +kernel
theorem d_Mo_image_17 : decode prog_13_method_73_code 17 = .ok (.aload_n 0, 1) := by decide +kernel
theorem d_Mo_image_18 : decode prog_13_method_73_code 18 = .ok (.aload_n 0, 1) := by decide +kernel
theorem d_Mo_image_19 : decode prog_13_method_73_code 19 = .ok (.getfield 125, 3) := by decide +kernel
theorem d_Mo_image_22 : decode prog_13_method_73_code 22 = .ok (.putfield 339, 3) := by decide +kernel
theorem d_Mo_image_25 : decode prog_13_method_73_code 25 = .ok (.aload_n 0, 1) := by decide +kernel
theorem d_Mo_image_26 : decode prog_13_method_73_code 26 = .ok (.aload_n 0, 1) := by decide +kernel
theorem d_Mo_image_27 : decode prog_13_method_73_code 27 = .ok (.getfield 128, 3) := by decide +kernel
theorem d_Mo_image_30 : decode prog_13_method_73_code 30 = .ok (.putfield 342, 3) := by decide +kernel
theorem d_Mo_image_33 : decode prog_13_method_73_code 33 = .ok (.aload_n 0, 1) := by decide +kernel
theorem d_Mo_image_34 : decode prog_13_method_73_code 34 = .ok (.aload_n 0, 1) := by decide +kernel
theorem d_Mo_image_35 : decode prog_13_method_73_code 35 = .ok (.getfield 131, 3) := by decide +kernel
theorem d_Mo_image_38 : decode prog_13_method_73_code 38 = .ok (.putfield 345, 3) := by decide +kernel
theorem d_Mo_image_41 : decode prog_13_method_73_code 41 = .ok (.iconst 0, 1) := by decide +kernel
theorem d_Mo_image_42 : decode prog_13_method_73_code 42 = .ok (.istore_n 1, 1) := by decide +kernel
theorem d_Mo_image_43 : decode prog_13_method_73_code 43 = .ok (.iload_n 1, 1) := by decide +kernel
theorem d_Mo_image_44 : decode prog_13_method_73_code 44 = .ok (.sipush 1024, 3) := by decide +kernel
theorem d_Mo_image_47 : decode prog_13_method_73_code 47 = .ok (.if_icmp .ge 33, 3) := by decide +kernel
theorem d_Mo_image_50 : decode prog_13_method_73_code 50 = .ok (.aload_n 0, 1) := by decide +kernel
theorem d_Mo_image_51 : decode prog_13_method_73_code 51 = .ok (.getfield 83, 3) := by decide +kernel
theorem d_Mo_image_54 : decode prog_13_method_73_code 54 = .ok (.iload_n 1, 1) := by decide +kernel
theorem d_Mo_image_55 : decode prog_13_method_73_code 55 = .ok (.aload_n 0, 1) := by decide +kernel
theorem d_Mo_image_56 : decode prog_13_method_73_code 56 = .ok (.getfield 13, 3) := by decide +kernel
theorem d_Mo_image_59 : decode prog_13_method_73_code 59 = .ok (.iload_n 1, 1) := by decide +kernel
theorem d_Mo_image_60 : decode prog_13_method_73_code 60 = .ok (.baload, 1) := by decide +kernel
theorem d_Mo_image_61 : decode prog_13_method_73_code 61 = .ok (.bastore, 1) := by decide +kernel
theorem d_Mo_image_62 : decode prog_13_method_73_code 62 = .ok (.aload_n 0, 1) := by decide +kernel
theorem d_Mo_image_63 : decode prog_13_method_73_code 63 = .ok (.getfield 86, 3) := by decide +kernel
theorem d_Mo_image_66 : decode prog_13_method_73_code 66 = .ok (.iload_n 1, 1) := by decide +kernel
theorem d_Mo_image_67 : decode prog_13_method_73_code 67 = .ok (.aload_n 0, 1) := by decide +kernel
theorem d_Mo_image_68 : decode prog_13_method_73_code 68 = .ok (.getfield 17, 3) := by decide +kernel
theorem d_Mo_image_71 : decode prog_13_method_73_code 71 = .ok (.iload_n 1, 1) := by decide +kernel
theorem d_Mo_image_72 : decode prog_13_method_73_code 72 = .ok (.baload, 1) := by decide +kernel
theorem d_Mo_image_73 : decode prog_13_method_73_code 73 = .ok (.bastore, 1) := by decide +kernel
theorem d_Mo_image_74 : decode prog_13_method_73_code 74 = .ok (.iinc 1 1, 3) := by decide +kernel
theorem d_Mo_image_77 : decode prog_13_method_73_code 77 = .ok (.goto (-34), 3) := by decide +kernel
theorem d_Mo_image_80 : decode prog_13_method_73_code 80 = .ok (.iconst 0, 1) := by decide +kernel
theorem d_Mo_image_81 : decode prog_13_method_73_code 81 = .ok (.istore_n 1, 1) := by decide +kernel
theorem d_Mo_image_82 : decode prog_13_method_73_code 82 = .ok (.iload_n 1, 1) := by decide +kernel
theorem d_Mo_image_83 : decode prog_13_method_73_code 83 = .ok (.bipush 10, 2) := by decide +kernel
theorem d_Mo_image_85 : decode prog_13_method_73_code 85 = .ok (.if_icmp .ge 33, 3) := by decide +kernel
theorem d_Mo_image_88 : decode prog_13_method_73_code 88 = .ok (.aload_n 0, 1) := by decide +kernel
theorem d_Mo_image_89 : decode prog_13_method_73_code 89 = .ok (.getfield 89, 3) := by decide +kernel
theorem d_Mo_image_92 : decode prog_13_method_73_code 92 = .ok (.iload_n 1, 1) := by decide +kernel
theorem d_Mo_image_93 : decode prog_13_method_73_code 93 = .ok (.aload_n 0, 1) := by decide +kernel
theorem d_Mo_image_94 : decode prog_13_method_73_code 94 = .ok (.getfield 27, 3) := by decide +kernel
theorem d_Mo_image_97 : decode prog_13_method_73_code 97 = .ok (.iload_n 1, 1) := by decide +kernel
theorem d_Mo_image_98 : decode prog_13_method_73_code 98 = .ok (.iaload, 1) := by decide +kernel
theorem d_Mo_image_99 : decode prog_13_method_73_code 99 = .ok (.iastore, 1) := by decide +kernel
theorem d_Mo_image_100 : decode prog_13_method_73_code 100 = .ok (.aload_n 0, 1) := by decide +kernel
theorem d_Mo_image_101 : decode prog_13_method_73_code 101 = .ok (.getfield 92, 3) := by decide +kernel
theorem d_Mo_image_104 : decode prog_13_method_73_code 104 = .ok (.iload_n 1, 1) := by decide +kernel
theorem d_Mo_image_105 : decode prog_13_method_73_code 105 = .ok (.aload_n 0, 1) := by decide +kernel
theorem d_Mo_image_106 : decode prog_13_method_73_code 106 = .ok (.getfield 30, 3) := by decide +kernel
theorem d_Mo_image_109 : decode prog_13_method_73_code 109 = .ok (.iload_n 1, 1) := by decide +kernel
theorem d_Mo_image_110 : decode prog_13_method_73_code 110 = .ok (.iaload, 1) := by decide +kernel
theorem d_Mo_image_111 : decode prog_13_method_73_code 111 = .ok (.iastore, 1) := by decide +kernel
theorem d_Mo_image_112 : decode prog_13_method_73_code 112 = .ok (.iinc 1 1, 3) := by decide +kernel
theorem d_Mo_image_115 : decode prog_13_method_73_code 115 = .ok (.goto (-33), 3) := by decide +kernel
theorem d_Mo_image_118 : decode prog_13_method_73_code 118 = .ok (.aload_n 0, 1) := by decide +kernel
theorem d_Mo_image_119 : decode prog_13_method_73_code 119 = .ok (.getfield 128, 3) := by decide +kernel
theorem d_Mo_image_122 : decode prog_13_method_73_code 122 = .ok (.ireturn, 1) := by decide +kernel
def f_Mo_image_L82   : Nat → Int32 → Int32 → Int32 → Int32 → Bool → Bool → Int32 → Int32 → Int32 → Int32 → (Nat → Int32) → (Nat → Int32) → (Nat → Int32) → (Nat → Int32) → (Nat → Int32) → (Nat → Int32) → (Nat → Int32) → Option (Int32 × Int32 × Int32 × Int32 × Bool × Bool × Int32 × Int32 × Int32 × Int32 × (Nat → Int32) × (Nat → Int32) × (Nat → Int32) × (Nat → Int32) × (Nat → Int32) × (Nat → Int32) × (Nat → Int32))
  | 0, _, _, _, _, _, _, _, _, _, _, _, _, _, _, _, _, _ => none
  | n + 1, v1, x_o_at, x_o_night, x_o_spent, x_o_hasBegun, x_o_hasImage, x_o_keptLamps, x_o_keptAt, x_o_keptNight, x_o_keptSpent, x_o_had, x_o_last, x_o_often, x_o_keptHad, x_o_keptTold, x_o_keptLast, x_o_keptOften =>
    if (10 : Int32) ≤ v1 then
      (some (x_o_night, x_o_at, x_o_night, x_o_spent, x_o_hasBegun, x_o_hasImage, x_o_keptLamps, x_o_keptAt, x_o_keptNight, x_o_keptSpent, x_o_had, x_o_last, x_o_often, x_o_keptHad, x_o_keptTold, x_o_keptLast, x_o_keptOften))
    else
      (if v1 < 0 ∨ 10 ≤ Int32.toNatClampNeg v1 then none else
      if v1 < 0 ∨ 10 ≤ Int32.toNatClampNeg v1 then none else
      if v1 < 0 ∨ 10 ≤ Int32.toNatClampNeg v1 then none else
      if v1 < 0 ∨ 10 ≤ Int32.toNatClampNeg v1 then none else
      f_Mo_image_L82  n (v1 + 1) x_o_at x_o_night x_o_spent x_o_hasBegun x_o_hasImage x_o_keptLamps x_o_keptAt x_o_keptNight x_o_keptSpent x_o_had x_o_last x_o_often x_o_keptHad x_o_keptTold (upd x_o_keptLast (Int32.toNatClampNeg v1) (x_o_last (Int32.toNatClampNeg v1))) (upd x_o_keptOften (Int32.toNatClampNeg v1) (x_o_often (Int32.toNatClampNeg v1))))
set_option maxRecDepth 20000 in
theorem w_Mo_image_L82 {p : Program} {l : Launch} {e : Env} {s : State} {m : MethodId} {args : Array Value} {below : List Frame} {meth : Method} {c : Code} {D : va_G} {dA : Nat → ClassId} {A : Nat → Prop} (C : GC p s m args meth c prog_13_method_73_code 2 "OneLampModel" (some .int) D dA A) {a_o a_o_had a_o_told a_o_barred a_o_cost a_o_last a_o_often a_o_changeOf a_o_changeAt a_o_before a_o_behind a_o_tape a_o_act a_o_with a_o_lineMany a_o_testEnd a_o_lineEnd a_o_facts a_o_pile a_o_way a_o_bestWay a_o_wasHad a_o_wasLast a_o_keptHad a_o_keptTold a_o_keptLast a_o_keptOften a_o_kind a_o_traced a_o_holds a_o_size a_o_elements a_o_shifted : Nat} {x_o_code : Int32} {x_o_lamps : Int32} {x_o_rest : Int32} {x_o_shy : Int32} {x_o_doneMany : Int32} {x_o_undoneMany : Int32} {x_o_taped : Int32} {x_o_here : Int32} {x_o_fault : Int32} {x_o_open : Int32} {x_o_laid : Int32} {x_o_hasLaw : Bool} {x_o_bestMany : Int32} {x_o_wasAt : Int32} {x_o_wasNight : Int32} {x_o_bodies : Int32} {x_o_traces : Int32} {x_o_told : Nat → Int32} {r0 : Int32} {o_x_o_at : Int32} {o_x_o_night : Int32} {o_x_o_spent : Int32} {o_x_o_hasBegun : Bool} {o_x_o_hasImage : Bool} {o_x_o_keptLamps : Int32} {o_x_o_keptAt : Int32} {o_x_o_keptNight : Int32} {o_x_o_keptSpent : Int32} {o_x_o_had : Nat → Int32} {o_x_o_last : Nat → Int32} {o_x_o_often : Nat → Int32} {o_x_o_keptHad : Nat → Int32} {o_x_o_keptTold : Nat → Int32} {o_x_o_keptLast : Nat → Int32} {o_x_o_keptOften : Nat → Int32}    : ∀ (n : Nat) (v1 : Int32) (x_o_at : Int32) (x_o_night : Int32) (x_o_spent : Int32) (x_o_hasBegun : Bool) (x_o_hasImage : Bool) (x_o_keptLamps : Int32) (x_o_keptAt : Int32) (x_o_keptNight : Int32) (x_o_keptSpent : Int32) (x_o_had : Nat → Int32) (x_o_last : Nat → Int32) (x_o_often : Nat → Int32) (x_o_keptHad : Nat → Int32) (x_o_keptTold : Nat → Int32) (x_o_keptLast : Nat → Int32) (x_o_keptOften : Nat → Int32), f_Mo_image_L82   n v1 x_o_at x_o_night x_o_spent x_o_hasBegun x_o_hasImage x_o_keptLamps x_o_keptAt x_o_keptNight x_o_keptSpent x_o_had x_o_last x_o_often x_o_keptHad x_o_keptTold x_o_keptLast x_o_keptOften = some (r0, o_x_o_at, o_x_o_night, o_x_o_spent, o_x_o_hasBegun, o_x_o_hasImage, o_x_o_keptLamps, o_x_o_keptAt, o_x_o_keptNight, o_x_o_keptSpent, o_x_o_had, o_x_o_last, o_x_o_often, o_x_o_keptHad, o_x_o_keptTold, o_x_o_keptLast, o_x_o_keptOften) → GG p l e { frames := 2, cells := 0, slots := 0, locals := 42 } s m args below meth c 2 D A 0 0 (MQ below (cQ D A (some (.int r0)) (fun _ : Unit => [O_Mo a_o x_o_code x_o_lamps o_x_o_at o_x_o_night o_x_o_spent x_o_rest x_o_shy a_o_had a_o_told a_o_barred a_o_cost a_o_last a_o_often o_x_o_hasBegun x_o_doneMany x_o_undoneMany a_o_changeOf a_o_changeAt a_o_before a_o_behind a_o_tape x_o_taped x_o_here x_o_fault x_o_open x_o_laid a_o_act a_o_with a_o_lineMany a_o_testEnd a_o_lineEnd a_o_facts a_o_pile x_o_hasLaw a_o_way a_o_bestWay x_o_bestMany a_o_wasHad a_o_wasLast x_o_wasAt x_o_wasNight o_x_o_hasImage o_x_o_keptLamps o_x_o_keptAt o_x_o_keptNight o_x_o_keptSpent a_o_keptHad a_o_keptTold a_o_keptLast a_o_keptOften x_o_bodies a_o_kind x_o_traces a_o_traced a_o_holds a_o_size a_o_elements a_o_shifted, A_Z dA a_o_had 1024 o_x_o_had, A_I dA a_o_last 10 o_x_o_last, A_I dA a_o_often 10 o_x_o_often, A_Z dA a_o_keptHad 1024 o_x_o_keptHad, A_Z dA a_o_told 1024 x_o_told, A_Z dA a_o_keptTold 1024 o_x_o_keptTold, A_I dA a_o_keptLast 10 o_x_o_keptLast, A_I dA a_o_keptOften 10 o_x_o_keptOften])) args s 0 0 A) 82 [(0, .ref a_o), (1, .int v1)] [] [O_Mo a_o x_o_code x_o_lamps x_o_at x_o_night x_o_spent x_o_rest x_o_shy a_o_had a_o_told a_o_barred a_o_cost a_o_last a_o_often x_o_hasBegun x_o_doneMany x_o_undoneMany a_o_changeOf a_o_changeAt a_o_before a_o_behind a_o_tape x_o_taped x_o_here x_o_fault x_o_open x_o_laid a_o_act a_o_with a_o_lineMany a_o_testEnd a_o_lineEnd a_o_facts a_o_pile x_o_hasLaw a_o_way a_o_bestWay x_o_bestMany a_o_wasHad a_o_wasLast x_o_wasAt x_o_wasNight x_o_hasImage x_o_keptLamps x_o_keptAt x_o_keptNight x_o_keptSpent a_o_keptHad a_o_keptTold a_o_keptLast a_o_keptOften x_o_bodies a_o_kind x_o_traces a_o_traced a_o_holds a_o_size a_o_elements a_o_shifted, A_Z dA a_o_had 1024 x_o_had, A_I dA a_o_last 10 x_o_last, A_I dA a_o_often 10 x_o_often, A_Z dA a_o_keptHad 1024 x_o_keptHad, A_Z dA a_o_told 1024 x_o_told, A_Z dA a_o_keptTold 1024 x_o_keptTold, A_I dA a_o_keptLast 10 x_o_keptLast, A_I dA a_o_keptOften 10 x_o_keptOften] := by
  intro n
  induction n with
  | zero =>
    intro v1 x_o_at x_o_night x_o_spent x_o_hasBegun x_o_hasImage x_o_keptLamps x_o_keptAt x_o_keptNight x_o_keptSpent x_o_had x_o_last x_o_often x_o_keptHad x_o_keptTold x_o_keptLast x_o_keptOften hf
    cases hf
  | succ n ih =>
    intro v1 x_o_at x_o_night x_o_spent x_o_hasBegun x_o_hasImage x_o_keptLamps x_o_keptAt x_o_keptNight x_o_keptSpent x_o_had x_o_last x_o_often x_o_keptHad x_o_keptTold x_o_keptLast x_o_keptOften hf
    unfold f_Mo_image_L82 at hf
    refine g_iload_n (pc' := 83) C 1 d_Mo_image_82 rfl rfl ?_
    refine g_bipush (pc' := 85) (v := 10) C d_Mo_image_83 rfl rfl ?_
    refine g_icmp_ge (pc' := 88) (tgt := 118) C d_Mo_image_85 rfl rfl (fun h => ?_) (fun h => ?_)
    · replace hf := g_ip h hf
      refine g_aload_n (pc' := 119) C 0 d_Mo_image_118 rfl rfl ?_
      refine g_get (pc' := 122) C kf_Mo 3 mw_4_141 d_Mo_image_119 rfl 0 rfl (by decide) rfl ?_
      replace hf := g_o2 hf; obtain ⟨h1, hf⟩ := hf; subst h1
      replace hf := g_o2 hf; obtain ⟨h1, hf⟩ := hf; subst h1
      replace hf := g_o2 hf; obtain ⟨h1, hf⟩ := hf; subst h1
      replace hf := g_o2 hf; obtain ⟨h1, hf⟩ := hf; subst h1
      replace hf := g_o2 hf; obtain ⟨h1, hf⟩ := hf; subst h1
      replace hf := g_o2 hf; obtain ⟨h1, hf⟩ := hf; subst h1
      replace hf := g_o2 hf; obtain ⟨h1, hf⟩ := hf; subst h1
      replace hf := g_o2 hf; obtain ⟨h1, hf⟩ := hf; subst h1
      replace hf := g_o2 hf; obtain ⟨h1, hf⟩ := hf; subst h1
      replace hf := g_o2 hf; obtain ⟨h1, hf⟩ := hf; subst h1
      replace hf := g_o2 hf; obtain ⟨h1, hf⟩ := hf; subst h1
      replace hf := g_o2 hf; obtain ⟨h1, hf⟩ := hf; subst h1
      replace hf := g_o2 hf; obtain ⟨h1, hf⟩ := hf; subst h1
      replace hf := g_o2 hf; obtain ⟨h1, hf⟩ := hf; subst h1
      replace hf := g_o2 hf; obtain ⟨h1, hf⟩ := hf; subst h1
      replace hf := g_o2 hf; obtain ⟨h1, hf⟩ := hf; subst h1
      replace hf := Option.some.inj hf; subst hf
      exact g_iret C d_Mo_image_122 () rfl
    · replace hf := g_in h hf
      refine g_aload_n (pc' := 89) C 0 d_Mo_image_88 rfl rfl ?_
      refine g_get (pc' := 92) C kf_Mo 48 mw_4_186 d_Mo_image_89 rfl 0 rfl (by decide) rfl ?_
      refine g_iload_n (pc' := 93) C 1 d_Mo_image_92 rfl rfl ?_
      refine g_aload_n (pc' := 94) C 0 d_Mo_image_93 rfl rfl ?_
      refine g_get (pc' := 97) C kf_Mo 11 mw_4_149 d_Mo_image_94 rfl 0 rfl (by decide) rfl ?_
      refine g_iload_n (pc' := 98) C 1 d_Mo_image_97 rfl rfl ?_
      have hb := g_ck hf
      replace hf := g_in hb hf
      refine g_iald (pc' := 99) C d_Mo_image_98 rfl 2 rfl hb ?_
      have hb := g_ck hf
      replace hf := g_in hb hf
      refine g_iast (pc' := 100) (ws' := [O_Mo a_o x_o_code x_o_lamps x_o_at x_o_night x_o_spent x_o_rest x_o_shy a_o_had a_o_told a_o_barred a_o_cost a_o_last a_o_often x_o_hasBegun x_o_doneMany x_o_undoneMany a_o_changeOf a_o_changeAt a_o_before a_o_behind a_o_tape x_o_taped x_o_here x_o_fault x_o_open x_o_laid a_o_act a_o_with a_o_lineMany a_o_testEnd a_o_lineEnd a_o_facts a_o_pile x_o_hasLaw a_o_way a_o_bestWay x_o_bestMany a_o_wasHad a_o_wasLast x_o_wasAt x_o_wasNight x_o_hasImage x_o_keptLamps x_o_keptAt x_o_keptNight x_o_keptSpent a_o_keptHad a_o_keptTold a_o_keptLast a_o_keptOften x_o_bodies a_o_kind x_o_traces a_o_traced a_o_holds a_o_size a_o_elements a_o_shifted, A_Z dA a_o_had 1024 x_o_had, A_I dA a_o_last 10 x_o_last, A_I dA a_o_often 10 x_o_often, A_Z dA a_o_keptHad 1024 x_o_keptHad, A_Z dA a_o_told 1024 x_o_told, A_Z dA a_o_keptTold 1024 x_o_keptTold, A_I dA a_o_keptLast 10 (upd x_o_keptLast (Int32.toNatClampNeg v1) (x_o_last (Int32.toNatClampNeg v1))), A_I dA a_o_keptOften 10 x_o_keptOften]) C d_Mo_image_99 rfl 7 rfl hb rfl ?_
      refine g_aload_n (pc' := 101) C 0 d_Mo_image_100 rfl rfl ?_
      refine g_get (pc' := 104) C kf_Mo 49 mw_4_187 d_Mo_image_101 rfl 0 rfl (by decide) rfl ?_
      refine g_iload_n (pc' := 105) C 1 d_Mo_image_104 rfl rfl ?_
      refine g_aload_n (pc' := 106) C 0 d_Mo_image_105 rfl rfl ?_
      refine g_get (pc' := 109) C kf_Mo 12 mw_4_150 d_Mo_image_106 rfl 0 rfl (by decide) rfl ?_
      refine g_iload_n (pc' := 110) C 1 d_Mo_image_109 rfl rfl ?_
      have hb := g_ck hf
      replace hf := g_in hb hf
      refine g_iald (pc' := 111) C d_Mo_image_110 rfl 3 rfl hb ?_
      have hb := g_ck hf
      replace hf := g_in hb hf
      refine g_iast (pc' := 112) (ws' := [O_Mo a_o x_o_code x_o_lamps x_o_at x_o_night x_o_spent x_o_rest x_o_shy a_o_had a_o_told a_o_barred a_o_cost a_o_last a_o_often x_o_hasBegun x_o_doneMany x_o_undoneMany a_o_changeOf a_o_changeAt a_o_before a_o_behind a_o_tape x_o_taped x_o_here x_o_fault x_o_open x_o_laid a_o_act a_o_with a_o_lineMany a_o_testEnd a_o_lineEnd a_o_facts a_o_pile x_o_hasLaw a_o_way a_o_bestWay x_o_bestMany a_o_wasHad a_o_wasLast x_o_wasAt x_o_wasNight x_o_hasImage x_o_keptLamps x_o_keptAt x_o_keptNight x_o_keptSpent a_o_keptHad a_o_keptTold a_o_keptLast a_o_keptOften x_o_bodies a_o_kind x_o_traces a_o_traced a_o_holds a_o_size a_o_elements a_o_shifted, A_Z dA a_o_had 1024 x_o_had, A_I dA a_o_last 10 x_o_last, A_I dA a_o_often 10 x_o_often, A_Z dA a_o_keptHad 1024 x_o_keptHad, A_Z dA a_o_told 1024 x_o_told, A_Z dA a_o_keptTold 1024 x_o_keptTold, A_I dA a_o_keptLast 10 (upd x_o_keptLast (Int32.toNatClampNeg v1) (x_o_last (Int32.toNatClampNeg v1))), A_I dA a_o_keptOften 10 (upd x_o_keptOften (Int32.toNatClampNeg v1) (x_o_often (Int32.toNatClampNeg v1)))]) C d_Mo_image_111 rfl 8 rfl hb rfl ?_
      refine g_iinc (pc' := 115) (j := 1) (v := (v1 + 1)) (lv' := [(1, .int (v1 + 1)), (0, .ref a_o)]) C d_Mo_image_112 rfl rfl rfl (by decide) rfl ?_
      refine g_goto (tgt := 82) C d_Mo_image_115 rfl ?_
      refine g_lv (lv' := [(0, .ref a_o), (1, .int (v1 + 1))]) [1, 0] rfl ?_
      exact ih (v1 + 1) x_o_at x_o_night x_o_spent x_o_hasBegun x_o_hasImage x_o_keptLamps x_o_keptAt x_o_keptNight x_o_keptSpent x_o_had x_o_last x_o_often x_o_keptHad x_o_keptTold (upd x_o_keptLast (Int32.toNatClampNeg v1) (x_o_last (Int32.toNatClampNeg v1))) (upd x_o_keptOften (Int32.toNatClampNeg v1) (x_o_often (Int32.toNatClampNeg v1))) hf
def f_Mo_image_L43   : Nat → Int32 → Int32 → Int32 → Int32 → Bool → Bool → Int32 → Int32 → Int32 → Int32 → (Nat → Int32) → (Nat → Int32) → (Nat → Int32) → (Nat → Int32) → (Nat → Int32) → (Nat → Int32) → (Nat → Int32) → (Nat → Int32) → Option (Int32 × Int32 × Int32 × Int32 × Bool × Bool × Int32 × Int32 × Int32 × Int32 × (Nat → Int32) × (Nat → Int32) × (Nat → Int32) × (Nat → Int32) × (Nat → Int32) × (Nat → Int32) × (Nat → Int32))
  | 0, _, _, _, _, _, _, _, _, _, _, _, _, _, _, _, _, _, _ => none
  | n + 1, v1, x_o_at, x_o_night, x_o_spent, x_o_hasBegun, x_o_hasImage, x_o_keptLamps, x_o_keptAt, x_o_keptNight, x_o_keptSpent, x_o_had, x_o_last, x_o_often, x_o_keptHad, x_o_told, x_o_keptTold, x_o_keptLast, x_o_keptOften =>
    if (1024 : Int32) ≤ v1 then
      (f_Mo_image_L82  3000 (0 : Int32) x_o_at x_o_night x_o_spent x_o_hasBegun x_o_hasImage x_o_keptLamps x_o_keptAt x_o_keptNight x_o_keptSpent x_o_had x_o_last x_o_often x_o_keptHad x_o_keptTold x_o_keptLast x_o_keptOften)
    else
      (if v1 < 0 ∨ 1024 ≤ Int32.toNatClampNeg v1 then none else
      if v1 < 0 ∨ 1024 ≤ Int32.toNatClampNeg v1 then none else
      if v1 < 0 ∨ 1024 ≤ Int32.toNatClampNeg v1 then none else
      if v1 < 0 ∨ 1024 ≤ Int32.toNatClampNeg v1 then none else
      f_Mo_image_L43  n (v1 + 1) x_o_at x_o_night x_o_spent x_o_hasBegun x_o_hasImage x_o_keptLamps x_o_keptAt x_o_keptNight x_o_keptSpent x_o_had x_o_last x_o_often (upd x_o_keptHad (Int32.toNatClampNeg v1) (vp_nar .boolean (x_o_had (Int32.toNatClampNeg v1)))) x_o_told (upd x_o_keptTold (Int32.toNatClampNeg v1) (vp_nar .boolean (x_o_told (Int32.toNatClampNeg v1)))) x_o_keptLast x_o_keptOften)
set_option maxRecDepth 20000 in
theorem w_Mo_image_L43 {p : Program} {l : Launch} {e : Env} {s : State} {m : MethodId} {args : Array Value} {below : List Frame} {meth : Method} {c : Code} {D : va_G} {dA : Nat → ClassId} {A : Nat → Prop} (C : GC p s m args meth c prog_13_method_73_code 2 "OneLampModel" (some .int) D dA A) {a_o a_o_had a_o_told a_o_barred a_o_cost a_o_last a_o_often a_o_changeOf a_o_changeAt a_o_before a_o_behind a_o_tape a_o_act a_o_with a_o_lineMany a_o_testEnd a_o_lineEnd a_o_facts a_o_pile a_o_way a_o_bestWay a_o_wasHad a_o_wasLast a_o_keptHad a_o_keptTold a_o_keptLast a_o_keptOften a_o_kind a_o_traced a_o_holds a_o_size a_o_elements a_o_shifted : Nat} {x_o_code : Int32} {x_o_lamps : Int32} {x_o_rest : Int32} {x_o_shy : Int32} {x_o_doneMany : Int32} {x_o_undoneMany : Int32} {x_o_taped : Int32} {x_o_here : Int32} {x_o_fault : Int32} {x_o_open : Int32} {x_o_laid : Int32} {x_o_hasLaw : Bool} {x_o_bestMany : Int32} {x_o_wasAt : Int32} {x_o_wasNight : Int32} {x_o_bodies : Int32} {x_o_traces : Int32} {r0 : Int32} {o_x_o_at : Int32} {o_x_o_night : Int32} {o_x_o_spent : Int32} {o_x_o_hasBegun : Bool} {o_x_o_hasImage : Bool} {o_x_o_keptLamps : Int32} {o_x_o_keptAt : Int32} {o_x_o_keptNight : Int32} {o_x_o_keptSpent : Int32} {o_x_o_had : Nat → Int32} {o_x_o_last : Nat → Int32} {o_x_o_often : Nat → Int32} {o_x_o_keptHad : Nat → Int32} {o_x_o_keptTold : Nat → Int32} {o_x_o_keptLast : Nat → Int32} {o_x_o_keptOften : Nat → Int32}    : ∀ (n : Nat) (v1 : Int32) (x_o_at : Int32) (x_o_night : Int32) (x_o_spent : Int32) (x_o_hasBegun : Bool) (x_o_hasImage : Bool) (x_o_keptLamps : Int32) (x_o_keptAt : Int32) (x_o_keptNight : Int32) (x_o_keptSpent : Int32) (x_o_had : Nat → Int32) (x_o_last : Nat → Int32) (x_o_often : Nat → Int32) (x_o_keptHad : Nat → Int32) (x_o_told : Nat → Int32) (x_o_keptTold : Nat → Int32) (x_o_keptLast : Nat → Int32) (x_o_keptOften : Nat → Int32), f_Mo_image_L43   n v1 x_o_at x_o_night x_o_spent x_o_hasBegun x_o_hasImage x_o_keptLamps x_o_keptAt x_o_keptNight x_o_keptSpent x_o_had x_o_last x_o_often x_o_keptHad x_o_told x_o_keptTold x_o_keptLast x_o_keptOften = some (r0, o_x_o_at, o_x_o_night, o_x_o_spent, o_x_o_hasBegun, o_x_o_hasImage, o_x_o_keptLamps, o_x_o_keptAt, o_x_o_keptNight, o_x_o_keptSpent, o_x_o_had, o_x_o_last, o_x_o_often, o_x_o_keptHad, o_x_o_keptTold, o_x_o_keptLast, o_x_o_keptOften) → GG p l e { frames := 2, cells := 0, slots := 0, locals := 42 } s m args below meth c 2 D A 0 0 (MQ below (cQ D A (some (.int r0)) (fun _ : Unit => [O_Mo a_o x_o_code x_o_lamps o_x_o_at o_x_o_night o_x_o_spent x_o_rest x_o_shy a_o_had a_o_told a_o_barred a_o_cost a_o_last a_o_often o_x_o_hasBegun x_o_doneMany x_o_undoneMany a_o_changeOf a_o_changeAt a_o_before a_o_behind a_o_tape x_o_taped x_o_here x_o_fault x_o_open x_o_laid a_o_act a_o_with a_o_lineMany a_o_testEnd a_o_lineEnd a_o_facts a_o_pile x_o_hasLaw a_o_way a_o_bestWay x_o_bestMany a_o_wasHad a_o_wasLast x_o_wasAt x_o_wasNight o_x_o_hasImage o_x_o_keptLamps o_x_o_keptAt o_x_o_keptNight o_x_o_keptSpent a_o_keptHad a_o_keptTold a_o_keptLast a_o_keptOften x_o_bodies a_o_kind x_o_traces a_o_traced a_o_holds a_o_size a_o_elements a_o_shifted, A_Z dA a_o_had 1024 o_x_o_had, A_I dA a_o_last 10 o_x_o_last, A_I dA a_o_often 10 o_x_o_often, A_Z dA a_o_keptHad 1024 o_x_o_keptHad, A_Z dA a_o_told 1024 x_o_told, A_Z dA a_o_keptTold 1024 o_x_o_keptTold, A_I dA a_o_keptLast 10 o_x_o_keptLast, A_I dA a_o_keptOften 10 o_x_o_keptOften])) args s 0 0 A) 43 [(0, .ref a_o), (1, .int v1)] [] [O_Mo a_o x_o_code x_o_lamps x_o_at x_o_night x_o_spent x_o_rest x_o_shy a_o_had a_o_told a_o_barred a_o_cost a_o_last a_o_often x_o_hasBegun x_o_doneMany x_o_undoneMany a_o_changeOf a_o_changeAt a_o_before a_o_behind a_o_tape x_o_taped x_o_here x_o_fault x_o_open x_o_laid a_o_act a_o_with a_o_lineMany a_o_testEnd a_o_lineEnd a_o_facts a_o_pile x_o_hasLaw a_o_way a_o_bestWay x_o_bestMany a_o_wasHad a_o_wasLast x_o_wasAt x_o_wasNight x_o_hasImage x_o_keptLamps x_o_keptAt x_o_keptNight x_o_keptSpent a_o_keptHad a_o_keptTold a_o_keptLast a_o_keptOften x_o_bodies a_o_kind x_o_traces a_o_traced a_o_holds a_o_size a_o_elements a_o_shifted, A_Z dA a_o_had 1024 x_o_had, A_I dA a_o_last 10 x_o_last, A_I dA a_o_often 10 x_o_often, A_Z dA a_o_keptHad 1024 x_o_keptHad, A_Z dA a_o_told 1024 x_o_told, A_Z dA a_o_keptTold 1024 x_o_keptTold, A_I dA a_o_keptLast 10 x_o_keptLast, A_I dA a_o_keptOften 10 x_o_keptOften] := by
  intro n
  induction n with
  | zero =>
    intro v1 x_o_at x_o_night x_o_spent x_o_hasBegun x_o_hasImage x_o_keptLamps x_o_keptAt x_o_keptNight x_o_keptSpent x_o_had x_o_last x_o_often x_o_keptHad x_o_told x_o_keptTold x_o_keptLast x_o_keptOften hf
    cases hf
  | succ n ih =>
    intro v1 x_o_at x_o_night x_o_spent x_o_hasBegun x_o_hasImage x_o_keptLamps x_o_keptAt x_o_keptNight x_o_keptSpent x_o_had x_o_last x_o_often x_o_keptHad x_o_told x_o_keptTold x_o_keptLast x_o_keptOften hf
    unfold f_Mo_image_L43 at hf
    refine g_iload_n (pc' := 44) C 1 d_Mo_image_43 rfl rfl ?_
    refine g_sipush (pc' := 47) (v := 1024) C d_Mo_image_44 rfl rfl ?_
    refine g_icmp_ge (pc' := 50) (tgt := 80) C d_Mo_image_47 rfl rfl (fun h => ?_) (fun h => ?_)
    · replace hf := g_ip h hf
      refine g_iconst (pc' := 81) (v := 0) C d_Mo_image_80 rfl rfl ?_
      refine g_istore_n (pc' := 82) (lv' := [(1, .int 0), (0, .ref a_o)]) C d_Mo_image_81 rfl (by decide) rfl ?_
      refine g_lv (lv' := [(0, .ref a_o), (1, .int (0 : Int32))]) [1, 0] rfl ?_
      exact w_Mo_image_L82 (a_o := a_o) (a_o_had := a_o_had) (a_o_told := a_o_told) (a_o_barred := a_o_barred) (a_o_cost := a_o_cost) (a_o_last := a_o_last) (a_o_often := a_o_often) (a_o_changeOf := a_o_changeOf) (a_o_changeAt := a_o_changeAt) (a_o_before := a_o_before) (a_o_behind := a_o_behind) (a_o_tape := a_o_tape) (a_o_act := a_o_act) (a_o_with := a_o_with) (a_o_lineMany := a_o_lineMany) (a_o_testEnd := a_o_testEnd) (a_o_lineEnd := a_o_lineEnd) (a_o_facts := a_o_facts) (a_o_pile := a_o_pile) (a_o_way := a_o_way) (a_o_bestWay := a_o_bestWay) (a_o_wasHad := a_o_wasHad) (a_o_wasLast := a_o_wasLast) (a_o_keptHad := a_o_keptHad) (a_o_keptTold := a_o_keptTold) (a_o_keptLast := a_o_keptLast) (a_o_keptOften := a_o_keptOften) (a_o_kind := a_o_kind) (a_o_traced := a_o_traced) (a_o_holds := a_o_holds) (a_o_size := a_o_size) (a_o_elements := a_o_elements) (a_o_shifted := a_o_shifted) C   3000 (0 : Int32) x_o_at x_o_night x_o_spent x_o_hasBegun x_o_hasImage x_o_keptLamps x_o_keptAt x_o_keptNight x_o_keptSpent x_o_had x_o_last x_o_often x_o_keptHad x_o_keptTold x_o_keptLast x_o_keptOften hf
    · replace hf := g_in h hf
      refine g_aload_n (pc' := 51) C 0 d_Mo_image_50 rfl rfl ?_
      refine g_get (pc' := 54) C kf_Mo 46 mw_4_184 d_Mo_image_51 rfl 0 rfl (by decide) rfl ?_
      refine g_iload_n (pc' := 55) C 1 d_Mo_image_54 rfl rfl ?_
      refine g_aload_n (pc' := 56) C 0 d_Mo_image_55 rfl rfl ?_
      refine g_get (pc' := 59) C kf_Mo 7 mw_4_145 d_Mo_image_56 rfl 0 rfl (by decide) rfl ?_
      refine g_iload_n (pc' := 60) C 1 d_Mo_image_59 rfl rfl ?_
      have hb := g_ck hf
      replace hf := g_in hb hf
      refine g_zald (pc' := 61) C d_Mo_image_60 rfl 1 rfl hb ?_
      have hb := g_ck hf
      replace hf := g_in hb hf
      refine g_zast (pc' := 62) (ws' := [O_Mo a_o x_o_code x_o_lamps x_o_at x_o_night x_o_spent x_o_rest x_o_shy a_o_had a_o_told a_o_barred a_o_cost a_o_last a_o_often x_o_hasBegun x_o_doneMany x_o_undoneMany a_o_changeOf a_o_changeAt a_o_before a_o_behind a_o_tape x_o_taped x_o_here x_o_fault x_o_open x_o_laid a_o_act a_o_with a_o_lineMany a_o_testEnd a_o_lineEnd a_o_facts a_o_pile x_o_hasLaw a_o_way a_o_bestWay x_o_bestMany a_o_wasHad a_o_wasLast x_o_wasAt x_o_wasNight x_o_hasImage x_o_keptLamps x_o_keptAt x_o_keptNight x_o_keptSpent a_o_keptHad a_o_keptTold a_o_keptLast a_o_keptOften x_o_bodies a_o_kind x_o_traces a_o_traced a_o_holds a_o_size a_o_elements a_o_shifted, A_Z dA a_o_had 1024 x_o_had, A_I dA a_o_last 10 x_o_last, A_I dA a_o_often 10 x_o_often, A_Z dA a_o_keptHad 1024 (upd x_o_keptHad (Int32.toNatClampNeg v1) (vp_nar .boolean (x_o_had (Int32.toNatClampNeg v1)))), A_Z dA a_o_told 1024 x_o_told, A_Z dA a_o_keptTold 1024 x_o_keptTold, A_I dA a_o_keptLast 10 x_o_keptLast, A_I dA a_o_keptOften 10 x_o_keptOften]) C d_Mo_image_61 rfl 4 rfl hb rfl ?_
      refine g_aload_n (pc' := 63) C 0 d_Mo_image_62 rfl rfl ?_
      refine g_get (pc' := 66) C kf_Mo 47 mw_4_185 d_Mo_image_63 rfl 0 rfl (by decide) rfl ?_
      refine g_iload_n (pc' := 67) C 1 d_Mo_image_66 rfl rfl ?_
      refine g_aload_n (pc' := 68) C 0 d_Mo_image_67 rfl rfl ?_
      refine g_get (pc' := 71) C kf_Mo 8 mw_4_146 d_Mo_image_68 rfl 0 rfl (by decide) rfl ?_
      refine g_iload_n (pc' := 72) C 1 d_Mo_image_71 rfl rfl ?_
      have hb := g_ck hf
      replace hf := g_in hb hf
      refine g_zald (pc' := 73) C d_Mo_image_72 rfl 5 rfl hb ?_
      have hb := g_ck hf
      replace hf := g_in hb hf
      refine g_zast (pc' := 74) (ws' := [O_Mo a_o x_o_code x_o_lamps x_o_at x_o_night x_o_spent x_o_rest x_o_shy a_o_had a_o_told a_o_barred a_o_cost a_o_last a_o_often x_o_hasBegun x_o_doneMany x_o_undoneMany a_o_changeOf a_o_changeAt a_o_before a_o_behind a_o_tape x_o_taped x_o_here x_o_fault x_o_open x_o_laid a_o_act a_o_with a_o_lineMany a_o_testEnd a_o_lineEnd a_o_facts a_o_pile x_o_hasLaw a_o_way a_o_bestWay x_o_bestMany a_o_wasHad a_o_wasLast x_o_wasAt x_o_wasNight x_o_hasImage x_o_keptLamps x_o_keptAt x_o_keptNight x_o_keptSpent a_o_keptHad a_o_keptTold a_o_keptLast a_o_keptOften x_o_bodies a_o_kind x_o_traces a_o_traced a_o_holds a_o_size a_o_elements a_o_shifted, A_Z dA a_o_had 1024 x_o_had, A_I dA a_o_last 10 x_o_last, A_I dA a_o_often 10 x_o_often, A_Z dA a_o_keptHad 1024 (upd x_o_keptHad (Int32.toNatClampNeg v1) (vp_nar .boolean (x_o_had (Int32.toNatClampNeg v1)))), A_Z dA a_o_told 1024 x_o_told, A_Z dA a_o_keptTold 1024 (upd x_o_keptTold (Int32.toNatClampNeg v1) (vp_nar .boolean (x_o_told (Int32.toNatClampNeg v1)))), A_I dA a_o_keptLast 10 x_o_keptLast, A_I dA a_o_keptOften 10 x_o_keptOften]) C d_Mo_image_73 rfl 6 rfl hb rfl ?_
      refine g_iinc (pc' := 77) (j := 1) (v := (v1 + 1)) (lv' := [(1, .int (v1 + 1)), (0, .ref a_o)]) C d_Mo_image_74 rfl rfl rfl (by decide) rfl ?_
      refine g_goto (tgt := 43) C d_Mo_image_77 rfl ?_
      refine g_lv (lv' := [(0, .ref a_o), (1, .int (v1 + 1))]) [1, 0] rfl ?_
      exact ih (v1 + 1) x_o_at x_o_night x_o_spent x_o_hasBegun x_o_hasImage x_o_keptLamps x_o_keptAt x_o_keptNight x_o_keptSpent x_o_had x_o_last x_o_often (upd x_o_keptHad (Int32.toNatClampNeg v1) (vp_nar .boolean (x_o_had (Int32.toNatClampNeg v1)))) x_o_told (upd x_o_keptTold (Int32.toNatClampNeg v1) (vp_nar .boolean (x_o_told (Int32.toNatClampNeg v1)))) x_o_keptLast x_o_keptOften hf
def f_Mo_image  (x_o_lamps : Int32) (x_o_at : Int32) (x_o_night : Int32) (x_o_spent : Int32) (x_o_hasBegun : Bool) (x_o_hasImage : Bool) (x_o_keptLamps : Int32) (x_o_keptAt : Int32) (x_o_keptNight : Int32) (x_o_keptSpent : Int32) (x_o_had : Nat → Int32) (x_o_last : Nat → Int32) (x_o_often : Nat → Int32) (x_o_keptHad : Nat → Int32) (x_o_told : Nat → Int32) (x_o_keptTold : Nat → Int32) (x_o_keptLast : Nat → Int32) (x_o_keptOften : Nat → Int32) : Option (Int32 × Int32 × Int32 × Int32 × Bool × Bool × Int32 × Int32 × Int32 × Int32 × (Nat → Int32) × (Nat → Int32) × (Nat → Int32) × (Nat → Int32) × (Nat → Int32) × (Nat → Int32) × (Nat → Int32)) :=
  (f_Mo_ready  x_o_at x_o_night x_o_spent x_o_hasBegun x_o_had x_o_last x_o_often).bind fun (u1, u2, u3, u4, u5, u6, u7) =>
  f_Mo_image_L43  3000 (0 : Int32) u1 u2 u3 u4 true x_o_lamps u1 u2 u3 u5 u6 u7 x_o_keptHad x_o_told x_o_keptTold x_o_keptLast x_o_keptOften
set_option maxRecDepth 20000 in
theorem c_Mo_image {l : Launch} {D : va_G} {dA : Nat → ClassId} {a_o a_o_had a_o_told a_o_barred a_o_cost a_o_last a_o_often a_o_changeOf a_o_changeAt a_o_before a_o_behind a_o_tape a_o_act a_o_with a_o_lineMany a_o_testEnd a_o_lineEnd a_o_facts a_o_pile a_o_way a_o_bestWay a_o_wasHad a_o_wasLast a_o_keptHad a_o_keptTold a_o_keptLast a_o_keptOften a_o_kind a_o_traced a_o_holds a_o_size a_o_elements a_o_shifted : Nat} {x_o_code : Int32} {x_o_rest : Int32} {x_o_shy : Int32} {x_o_doneMany : Int32} {x_o_undoneMany : Int32} {x_o_taped : Int32} {x_o_here : Int32} {x_o_fault : Int32} {x_o_open : Int32} {x_o_laid : Int32} {x_o_hasLaw : Bool} {x_o_bestMany : Int32} {x_o_wasAt : Int32} {x_o_wasNight : Int32} {x_o_bodies : Int32} {x_o_traces : Int32} {x_o_lamps : Int32} {x_o_at : Int32} {x_o_night : Int32} {x_o_spent : Int32} {x_o_hasBegun : Bool} {x_o_hasImage : Bool} {x_o_keptLamps : Int32} {x_o_keptAt : Int32} {x_o_keptNight : Int32} {x_o_keptSpent : Int32} {x_o_had : Nat → Int32} {x_o_last : Nat → Int32} {x_o_often : Nat → Int32} {x_o_keptHad : Nat → Int32} {x_o_told : Nat → Int32} {x_o_keptTold : Nat → Int32} {x_o_keptLast : Nat → Int32} {x_o_keptOften : Nat → Int32} {r0 : Int32} {o_x_o_at : Int32} {o_x_o_night : Int32} {o_x_o_spent : Int32} {o_x_o_hasBegun : Bool} {o_x_o_hasImage : Bool} {o_x_o_keptLamps : Int32} {o_x_o_keptAt : Int32} {o_x_o_keptNight : Int32} {o_x_o_keptSpent : Int32} {o_x_o_had : Nat → Int32} {o_x_o_last : Nat → Int32} {o_x_o_often : Nat → Int32} {o_x_o_keptHad : Nat → Int32} {o_x_o_keptTold : Nat → Int32} {o_x_o_keptLast : Nat → Int32} {o_x_o_keptOften : Nat → Int32}   (hf : f_Mo_image  x_o_lamps x_o_at x_o_night x_o_spent x_o_hasBegun x_o_hasImage x_o_keptLamps x_o_keptAt x_o_keptNight x_o_keptSpent x_o_had x_o_last x_o_often x_o_keptHad x_o_told x_o_keptTold x_o_keptLast x_o_keptOften = some (r0, o_x_o_at, o_x_o_night, o_x_o_spent, o_x_o_hasBegun, o_x_o_hasImage, o_x_o_keptLamps, o_x_o_keptAt, o_x_o_keptNight, o_x_o_keptSpent, o_x_o_had, o_x_o_last, o_x_o_often, o_x_o_keptHad, o_x_o_keptTold, o_x_o_keptLast, o_x_o_keptOften)) : CT l y_Mo_image prog_13_method_73_code 2 (some .int) { frames := 2, cells := 0, slots := 0, locals := 42 } D dA [.ref a_o] [O_Mo a_o x_o_code x_o_lamps x_o_at x_o_night x_o_spent x_o_rest x_o_shy a_o_had a_o_told a_o_barred a_o_cost a_o_last a_o_often x_o_hasBegun x_o_doneMany x_o_undoneMany a_o_changeOf a_o_changeAt a_o_before a_o_behind a_o_tape x_o_taped x_o_here x_o_fault x_o_open x_o_laid a_o_act a_o_with a_o_lineMany a_o_testEnd a_o_lineEnd a_o_facts a_o_pile x_o_hasLaw a_o_way a_o_bestWay x_o_bestMany a_o_wasHad a_o_wasLast x_o_wasAt x_o_wasNight x_o_hasImage x_o_keptLamps x_o_keptAt x_o_keptNight x_o_keptSpent a_o_keptHad a_o_keptTold a_o_keptLast a_o_keptOften x_o_bodies a_o_kind x_o_traces a_o_traced a_o_holds a_o_size a_o_elements a_o_shifted, A_Z dA a_o_had 1024 x_o_had, A_I dA a_o_last 10 x_o_last, A_I dA a_o_often 10 x_o_often, A_Z dA a_o_keptHad 1024 x_o_keptHad, A_Z dA a_o_told 1024 x_o_told, A_Z dA a_o_keptTold 1024 x_o_keptTold, A_I dA a_o_keptLast 10 x_o_keptLast, A_I dA a_o_keptOften 10 x_o_keptOften] (some (.int r0)) (fun _ : Unit => [O_Mo a_o x_o_code x_o_lamps o_x_o_at o_x_o_night o_x_o_spent x_o_rest x_o_shy a_o_had a_o_told a_o_barred a_o_cost a_o_last a_o_often o_x_o_hasBegun x_o_doneMany x_o_undoneMany a_o_changeOf a_o_changeAt a_o_before a_o_behind a_o_tape x_o_taped x_o_here x_o_fault x_o_open x_o_laid a_o_act a_o_with a_o_lineMany a_o_testEnd a_o_lineEnd a_o_facts a_o_pile x_o_hasLaw a_o_way a_o_bestWay x_o_bestMany a_o_wasHad a_o_wasLast x_o_wasAt x_o_wasNight o_x_o_hasImage o_x_o_keptLamps o_x_o_keptAt o_x_o_keptNight o_x_o_keptSpent a_o_keptHad a_o_keptTold a_o_keptLast a_o_keptOften x_o_bodies a_o_kind x_o_traces a_o_traced a_o_holds a_o_size a_o_elements a_o_shifted, A_Z dA a_o_had 1024 o_x_o_had, A_I dA a_o_last 10 o_x_o_last, A_I dA a_o_often 10 o_x_o_often, A_Z dA a_o_keptHad 1024 o_x_o_keptHad, A_Z dA a_o_told 1024 x_o_told, A_Z dA a_o_keptTold 1024 o_x_o_keptTold, A_I dA a_o_keptLast 10 o_x_o_keptLast, A_I dA a_o_keptOften 10 o_x_o_keptOften]) := by
  refine ct_intro "OneLampModel" rfl (by decide +kernel) (Nat.le_of_ble_eq_true rfl) [(0, .ref a_o)] rfl (fun _ C => ?_)
  unfold f_Mo_image at hf
  refine g_aload_n (pc' := 1) C 0 d_Mo_image_0 rfl rfl ?_
  replace hf := g_bi hf; obtain ⟨⟨u1, u2, u3, u4, u5, u6, u7⟩, hc8, hf⟩ := hf
  dsimp only at hf
  refine g_callV (pc' := 4) (st1 := []) (ws1 := [O_Mo a_o x_o_code x_o_lamps u1 u2 u3 x_o_rest x_o_shy a_o_had a_o_told a_o_barred a_o_cost a_o_last a_o_often u4 x_o_doneMany x_o_undoneMany a_o_changeOf a_o_changeAt a_o_before a_o_behind a_o_tape x_o_taped x_o_here x_o_fault x_o_open x_o_laid a_o_act a_o_with a_o_lineMany a_o_testEnd a_o_lineEnd a_o_facts a_o_pile x_o_hasLaw a_o_way a_o_bestWay x_o_bestMany a_o_wasHad a_o_wasLast x_o_wasAt x_o_wasNight x_o_hasImage x_o_keptLamps x_o_keptAt x_o_keptNight x_o_keptSpent a_o_keptHad a_o_keptTold a_o_keptLast a_o_keptOften x_o_bodies a_o_kind x_o_traces a_o_traced a_o_holds a_o_size a_o_elements a_o_shifted, A_Z dA a_o_had 1024 u5, A_I dA a_o_last 10 u6, A_I dA a_o_often 10 u7, A_Z dA a_o_keptHad 1024 x_o_keptHad, A_Z dA a_o_told 1024 x_o_told, A_Z dA a_o_keptTold 1024 x_o_keptTold, A_I dA a_o_keptLast 10 x_o_keptLast, A_I dA a_o_keptOften 10 x_o_keptOften]) C (c_Mo_ready (l := l) (D := D) (dA := dA) (a_o := a_o) (a_o_had := a_o_had) (a_o_told := a_o_told) (a_o_barred := a_o_barred) (a_o_cost := a_o_cost) (a_o_last := a_o_last) (a_o_often := a_o_often) (a_o_changeOf := a_o_changeOf) (a_o_changeAt := a_o_changeAt) (a_o_before := a_o_before) (a_o_behind := a_o_behind) (a_o_tape := a_o_tape) (a_o_act := a_o_act) (a_o_with := a_o_with) (a_o_lineMany := a_o_lineMany) (a_o_testEnd := a_o_testEnd) (a_o_lineEnd := a_o_lineEnd) (a_o_facts := a_o_facts) (a_o_pile := a_o_pile) (a_o_way := a_o_way) (a_o_bestWay := a_o_bestWay) (a_o_wasHad := a_o_wasHad) (a_o_wasLast := a_o_wasLast) (a_o_keptHad := a_o_keptHad) (a_o_keptTold := a_o_keptTold) (a_o_keptLast := a_o_keptLast) (a_o_keptOften := a_o_keptOften) (a_o_kind := a_o_kind) (a_o_traced := a_o_traced) (a_o_holds := a_o_holds) (a_o_size := a_o_size) (a_o_elements := a_o_elements) (a_o_shifted := a_o_shifted) (x_o_code := x_o_code) (x_o_lamps := x_o_lamps) (x_o_rest := x_o_rest) (x_o_shy := x_o_shy) (x_o_doneMany := x_o_doneMany) (x_o_undoneMany := x_o_undoneMany) (x_o_taped := x_o_taped) (x_o_here := x_o_here) (x_o_fault := x_o_fault) (x_o_open := x_o_open) (x_o_laid := x_o_laid) (x_o_hasLaw := x_o_hasLaw) (x_o_bestMany := x_o_bestMany) (x_o_wasAt := x_o_wasAt) (x_o_wasNight := x_o_wasNight) (x_o_hasImage := x_o_hasImage) (x_o_keptLamps := x_o_keptLamps) (x_o_keptAt := x_o_keptAt) (x_o_keptNight := x_o_keptNight) (x_o_keptSpent := x_o_keptSpent) (x_o_bodies := x_o_bodies) (x_o_traces := x_o_traces)   hc8) yy_Mo_ready kf_Mo rfl mw_5_142 d_Mo_image_1 rfl [] rfl rfl (Nat.le_of_ble_eq_true rfl) ⟨Nat.le_of_ble_eq_true rfl, Nat.le_of_ble_eq_true rfl⟩ rfl rfl (Nat.zero_le _) (Nat.zero_le _) 0 rfl [0, 1, 2, 3] rfl (by decide +kernel) rfl (g_lay_sel _ _ _ _ [(0, true), (1, true), (2, true), (3, true), (4, false), (5, false), (6, false), (7, false), (8, false)] (by decide +kernel) rfl (by decide +kernel) rfl rfl) rfl ?_
  refine g_aload_n (pc' := 5) C 0 d_Mo_image_4 rfl rfl ?_
  refine g_iconst (pc' := 6) (v := 1) C d_Mo_image_5 rfl rfl ?_
  refine g_put (pc' := 9) (ws' := [O_Mo a_o x_o_code x_o_lamps u1 u2 u3 x_o_rest x_o_shy a_o_had a_o_told a_o_barred a_o_cost a_o_last a_o_often u4 x_o_doneMany x_o_undoneMany a_o_changeOf a_o_changeAt a_o_before a_o_behind a_o_tape x_o_taped x_o_here x_o_fault x_o_open x_o_laid a_o_act a_o_with a_o_lineMany a_o_testEnd a_o_lineEnd a_o_facts a_o_pile x_o_hasLaw a_o_way a_o_bestWay x_o_bestMany a_o_wasHad a_o_wasLast x_o_wasAt x_o_wasNight true x_o_keptLamps x_o_keptAt x_o_keptNight x_o_keptSpent a_o_keptHad a_o_keptTold a_o_keptLast a_o_keptOften x_o_bodies a_o_kind x_o_traces a_o_traced a_o_holds a_o_size a_o_elements a_o_shifted, A_Z dA a_o_had 1024 u5, A_I dA a_o_last 10 u6, A_I dA a_o_often 10 u7, A_Z dA a_o_keptHad 1024 x_o_keptHad, A_Z dA a_o_told 1024 x_o_told, A_Z dA a_o_keptTold 1024 x_o_keptTold, A_I dA a_o_keptLast 10 x_o_keptLast, A_I dA a_o_keptOften 10 x_o_keptOften]) C kf_Mo 41 mw_4_179 d_Mo_image_6 rfl 0 rfl (by decide) rfl rfl rfl (Nat.le_of_ble_eq_true rfl) rfl ?_
  refine g_aload_n (pc' := 10) C 0 d_Mo_image_9 rfl rfl ?_
  refine g_aload_n (pc' := 11) C 0 d_Mo_image_10 rfl rfl ?_
  refine g_get (pc' := 14) C kf_Mo 1 mw_4_139 d_Mo_image_11 rfl 0 rfl (by decide) rfl ?_
  refine g_put (pc' := 17) (ws' := [O_Mo a_o x_o_code x_o_lamps u1 u2 u3 x_o_rest x_o_shy a_o_had a_o_told a_o_barred a_o_cost a_o_last a_o_often u4 x_o_doneMany x_o_undoneMany a_o_changeOf a_o_changeAt a_o_before a_o_behind a_o_tape x_o_taped x_o_here x_o_fault x_o_open x_o_laid a_o_act a_o_with a_o_lineMany a_o_testEnd a_o_lineEnd a_o_facts a_o_pile x_o_hasLaw a_o_way a_o_bestWay x_o_bestMany a_o_wasHad a_o_wasLast x_o_wasAt x_o_wasNight true x_o_lamps x_o_keptAt x_o_keptNight x_o_keptSpent a_o_keptHad a_o_keptTold a_o_keptLast a_o_keptOften x_o_bodies a_o_kind x_o_traces a_o_traced a_o_holds a_o_size a_o_elements a_o_shifted, A_Z dA a_o_had 1024 u5, A_I dA a_o_last 10 u6, A_I dA a_o_often 10 u7, A_Z dA a_o_keptHad 1024 x_o_keptHad, A_Z dA a_o_told 1024 x_o_told, A_Z dA a_o_keptTold 1024 x_o_keptTold, A_I dA a_o_keptLast 10 x_o_keptLast, A_I dA a_o_keptOften 10 x_o_keptOften]) C kf_Mo 42 mw_4_180 d_Mo_image_14 rfl 0 rfl (by decide) rfl rfl rfl (Nat.le_of_ble_eq_true rfl) rfl ?_
  refine g_aload_n (pc' := 18) C 0 d_Mo_image_17 rfl rfl ?_
  refine g_aload_n (pc' := 19) C 0 d_Mo_image_18 rfl rfl ?_
  refine g_get (pc' := 22) C kf_Mo 2 mw_4_140 d_Mo_image_19 rfl 0 rfl (by decide) rfl ?_
  refine g_put (pc' := 25) (ws' := [O_Mo a_o x_o_code x_o_lamps u1 u2 u3 x_o_rest x_o_shy a_o_had a_o_told a_o_barred a_o_cost a_o_last a_o_often u4 x_o_doneMany x_o_undoneMany a_o_changeOf a_o_changeAt a_o_before a_o_behind a_o_tape x_o_taped x_o_here x_o_fault x_o_open x_o_laid a_o_act a_o_with a_o_lineMany a_o_testEnd a_o_lineEnd a_o_facts a_o_pile x_o_hasLaw a_o_way a_o_bestWay x_o_bestMany a_o_wasHad a_o_wasLast x_o_wasAt x_o_wasNight true x_o_lamps u1 x_o_keptNight x_o_keptSpent a_o_keptHad a_o_keptTold a_o_keptLast a_o_keptOften x_o_bodies a_o_kind x_o_traces a_o_traced a_o_holds a_o_size a_o_elements a_o_shifted, A_Z dA a_o_had 1024 u5, A_I dA a_o_last 10 u6, A_I dA a_o_often 10 u7, A_Z dA a_o_keptHad 1024 x_o_keptHad, A_Z dA a_o_told 1024 x_o_told, A_Z dA a_o_keptTold 1024 x_o_keptTold, A_I dA a_o_keptLast 10 x_o_keptLast, A_I dA a_o_keptOften 10 x_o_keptOften]) C kf_Mo 43 mw_4_181 d_Mo_image_22 rfl 0 rfl (by decide) rfl rfl rfl (Nat.le_of_ble_eq_true rfl) rfl ?_
  refine g_aload_n (pc' := 26) C 0 d_Mo_image_25 rfl rfl ?_
  refine g_aload_n (pc' := 27) C 0 d_Mo_image_26 rfl rfl ?_
  refine g_get (pc' := 30) C kf_Mo 3 mw_4_141 d_Mo_image_27 rfl 0 rfl (by decide) rfl ?_
  refine g_put (pc' := 33) (ws' := [O_Mo a_o x_o_code x_o_lamps u1 u2 u3 x_o_rest x_o_shy a_o_had a_o_told a_o_barred a_o_cost a_o_last a_o_often u4 x_o_doneMany x_o_undoneMany a_o_changeOf a_o_changeAt a_o_before a_o_behind a_o_tape x_o_taped x_o_here x_o_fault x_o_open x_o_laid a_o_act a_o_with a_o_lineMany a_o_testEnd a_o_lineEnd a_o_facts a_o_pile x_o_hasLaw a_o_way a_o_bestWay x_o_bestMany a_o_wasHad a_o_wasLast x_o_wasAt x_o_wasNight true x_o_lamps u1 u2 x_o_keptSpent a_o_keptHad a_o_keptTold a_o_keptLast a_o_keptOften x_o_bodies a_o_kind x_o_traces a_o_traced a_o_holds a_o_size a_o_elements a_o_shifted, A_Z dA a_o_had 1024 u5, A_I dA a_o_last 10 u6, A_I dA a_o_often 10 u7, A_Z dA a_o_keptHad 1024 x_o_keptHad, A_Z dA a_o_told 1024 x_o_told, A_Z dA a_o_keptTold 1024 x_o_keptTold, A_I dA a_o_keptLast 10 x_o_keptLast, A_I dA a_o_keptOften 10 x_o_keptOften]) C kf_Mo 44 mw_4_182 d_Mo_image_30 rfl 0 rfl (by decide) rfl rfl rfl (Nat.le_of_ble_eq_true rfl) rfl ?_
  refine g_aload_n (pc' := 34) C 0 d_Mo_image_33 rfl rfl ?_
  refine g_aload_n (pc' := 35) C 0 d_Mo_image_34 rfl rfl ?_
  refine g_get (pc' := 38) C kf_Mo 4 mw_4_142 d_Mo_image_35 rfl 0 rfl (by decide) rfl ?_
  refine g_put (pc' := 41) (ws' := [O_Mo a_o x_o_code x_o_lamps u1 u2 u3 x_o_rest x_o_shy a_o_had a_o_told a_o_barred a_o_cost a_o_last a_o_often u4 x_o_doneMany x_o_undoneMany a_o_changeOf a_o_changeAt a_o_before a_o_behind a_o_tape x_o_taped x_o_here x_o_fault x_o_open x_o_laid a_o_act a_o_with a_o_lineMany a_o_testEnd a_o_lineEnd a_o_facts a_o_pile x_o_hasLaw a_o_way a_o_bestWay x_o_bestMany a_o_wasHad a_o_wasLast x_o_wasAt x_o_wasNight true x_o_lamps u1 u2 u3 a_o_keptHad a_o_keptTold a_o_keptLast a_o_keptOften x_o_bodies a_o_kind x_o_traces a_o_traced a_o_holds a_o_size a_o_elements a_o_shifted, A_Z dA a_o_had 1024 u5, A_I dA a_o_last 10 u6, A_I dA a_o_often 10 u7, A_Z dA a_o_keptHad 1024 x_o_keptHad, A_Z dA a_o_told 1024 x_o_told, A_Z dA a_o_keptTold 1024 x_o_keptTold, A_I dA a_o_keptLast 10 x_o_keptLast, A_I dA a_o_keptOften 10 x_o_keptOften]) C kf_Mo 45 mw_4_183 d_Mo_image_38 rfl 0 rfl (by decide) rfl rfl rfl (Nat.le_of_ble_eq_true rfl) rfl ?_
  refine g_iconst (pc' := 42) (v := 0) C d_Mo_image_41 rfl rfl ?_
  refine g_istore_n (pc' := 43) (lv' := [(1, .int 0), (0, .ref a_o)]) C d_Mo_image_42 rfl (by decide) rfl ?_
  refine g_lv (lv' := [(0, .ref a_o), (1, .int (0 : Int32))]) [1, 0] rfl ?_
  exact w_Mo_image_L43 (a_o := a_o) (a_o_had := a_o_had) (a_o_told := a_o_told) (a_o_barred := a_o_barred) (a_o_cost := a_o_cost) (a_o_last := a_o_last) (a_o_often := a_o_often) (a_o_changeOf := a_o_changeOf) (a_o_changeAt := a_o_changeAt) (a_o_before := a_o_before) (a_o_behind := a_o_behind) (a_o_tape := a_o_tape) (a_o_act := a_o_act) (a_o_with := a_o_with) (a_o_lineMany := a_o_lineMany) (a_o_testEnd := a_o_testEnd) (a_o_lineEnd := a_o_lineEnd) (a_o_facts := a_o_facts) (a_o_pile := a_o_pile) (a_o_way := a_o_way) (a_o_bestWay := a_o_bestWay) (a_o_wasHad := a_o_wasHad) (a_o_wasLast := a_o_wasLast) (a_o_keptHad := a_o_keptHad) (a_o_keptTold := a_o_keptTold) (a_o_keptLast := a_o_keptLast) (a_o_keptOften := a_o_keptOften) (a_o_kind := a_o_kind) (a_o_traced := a_o_traced) (a_o_holds := a_o_holds) (a_o_size := a_o_size) (a_o_elements := a_o_elements) (a_o_shifted := a_o_shifted) C   3000 (0 : Int32) u1 u2 u3 u4 true x_o_lamps u1 u2 u3 u5 u6 u7 x_o_keptHad x_o_told x_o_keptTold x_o_keptLast x_o_keptOften hf
def y_Mo_back : MethodName := ⟨"OneLampModel", "back", "()I"⟩
theorem yy_Mo_back : YV y_Mo_back prog_13_method_74_code 2 (some .int) 0 := ⟨mw_6_122, mw_1_12, mw_6_120, mw_6_121, by decide +kernel, by decide +kernel, by decide +kernel⟩
theorem d_Mo_back_0 : decode prog_13_method_74_code 0 = .ok (.aload_n 0, 1) := by decide +kernel
theorem d_Mo_back_1 : decode prog_13_method_74_code 1 = .ok (.getfield 333, 3) := by decide +kernel
theorem d_Mo_back_4 : decode prog_13_method_74_code 4 = .ok (.ifCond .ne 6, 3) := by decide +kernel
theorem d_Mo_back_7 : decode prog_13_method_74_code 7 = .ok (.bipush (-5), 2) := by decide +kernel
theorem d_Mo_back_9 : decode prog_13_method_74_code 9 = .ok (.ireturn, 1) := by decide +kernel
theorem d_Mo_back_10 : decode prog_13_method_74_code 10 = .ok (.aload_n 0, 1) := by decide +kernel
theorem d_Mo_back_11 : decode prog_13_method_74_code 11 = .ok (.aload_n 0, 1) := by decide +kernel
theorem d_Mo_back_12 : decode prog_13_method_74_code 12 = .ok (.getfield 336, 3) := by decide +kernel
theorem d_Mo_back_15 : decode prog_13_method_74_code 15 = .ok (.putfield 7, 3) := by decide +kernel
theorem d_Mo_back_18 : decode prog_13_method_74_code 18 = .ok (.aload_n 0, 1) := by decide +kernel
theorem d_Mo_back_19 : decode prog_13_method_74_code 19 = .ok (.aload_n 0, 1) := by decide +kernel
theorem d_Mo_back_20 : decode prog_13_method_74_code 20 = .ok (.getfield 339, 3) := by decide +kernel
theorem d_Mo_back_23 : decode prog_13_method_74_code 23 = .ok (.putfield 125, 3) := by decide +kernel
theorem d_Mo_back_26 : decode prog_13_method_74_code 26 = .ok (.aload_n 0, 1) := by decide +kernel
theorem d_Mo_back_27 : decode prog_13_method_74_code 27 = .ok (.aload_n 0, 1) := by decide +kernel
theorem d_Mo_back_28 : decode prog_13_method_74_code 28 = .ok (.getfield 342, 3) := by decide +kernel
theorem d_Mo_back_31 : decode prog_13_method_74_code 31 = .ok (.putfield 128, 3) := by decide +kernel
theorem d_Mo_back_34 : decode prog_13_method_74_code 34 = .ok (.aload_n 0, 1) := by decide +kernel
theorem d_Mo_back_35 : decode prog_13_method_74_code 35 = .ok (.aload_n 0, 1) := by decide +kernel
theorem d_Mo_back_36 : decode prog_13_method_74_code 36 = .ok (.getfield 345, 3) := by decide +kernel
theorem d_Mo_back_39 : decode prog_13_method_74_code 39 = .ok (.putfield 131, 3) := by decide +kernel
theorem d_Mo_back_42 : decode prog_13_method_74_code 42 = .ok (.iconst 0, 1) := by decide +kernel
theorem d_Mo_back_43 : decode prog_13_method_74_code 43 = .ok (.istore_n 1, 1) := by decide +kernel
theorem d_Mo_back_44 : decode prog_13_method_74_code 44 = .ok (.iload_n 1, 1) := by decide +kernel
theorem d_Mo_back_45 : decode prog_13_method_74_code 45 = .ok (.sipush 1024, 3) := by decide +kernel
theorem d_Mo_back_48 : decode prog_13_method_74_code 48 = .ok (.if_icmp .ge 33, 3) := by decide +kernel
theorem d_Mo_back_51 : decode prog_13_method_74_code 51 = .ok (.aload_n 0, 1) := by decide +kernel
theorem d_Mo_back_52 : decode prog_13_method_74_code 52 = .ok (.getfield 13, 3) := by decide +kernel
theorem d_Mo_back_55 : decode prog_13_method_74_code 55 = .ok (.iload_n 1, 1) := by decide +kernel
theorem d_Mo_back_56 : decode prog_13_method_74_code 56 = .ok (.aload_n 0, 1) := by decide +kernel
theorem d_Mo_back_57 : decode prog_13_method_74_code 57 = .ok (.getfield 83, 3) := by decide +kernel
theorem d_Mo_back_60 : decode prog_13_method_74_code 60 = .ok (.iload_n 1, 1) := by decide +kernel
theorem d_Mo_back_61 : decode prog_13_method_74_code 61 = .ok (.baload, 1) := by decide +kernel
theorem d_Mo_back_62 : decode prog_13_method_74_code 62 = .ok (.bastore, 1) := by decide +kernel
theorem d_Mo_back_63 : decode prog_13_method_74_code 63 = .ok (.aload_n 0, 1) := by decide +kernel
theorem d_Mo_back_64 : decode prog_13_method_74_code 64 = .ok (.getfield 17, 3) := by decide +kernel
theorem d_Mo_back_67 : decode prog_13_method_74_code 67 = .ok (.iload_n 1, 1) := by decide +kernel
theorem d_Mo_back_68 : decode prog_13_method_74_code 68 = .ok (.aload_n 0, 1) := by decide +kernel
theorem d_Mo_back_69 : decode prog_13_method_74_code 69 = .ok (.getfield 86, 3) := by decide +kernel
theorem d_Mo_back_72 : decode prog_13_method_74_code 72 = .ok (.iload_n 1, 1) := by decide +kernel
theorem d_Mo_back_73 : decode prog_13_method_74_code 73 = .ok (.baload, 1) := by decide +kernel
theorem d_Mo_back_74 : decode prog_13_method_74_code 74 = .ok (.bastore, 1) := by decide +kernel
theorem d_Mo_back_75 : decode prog_13_method_74_code 75 = .ok (.iinc 1 1, 3) := by decide +kernel
theorem d_Mo_back_78 : decode prog_13_method_74_code 78 = .ok (.goto (-34), 3) := by decide +kernel
theorem d_Mo_back_81 : decode prog_13_method_74_code 81 = .ok (.iconst 0, 1) := by decide +kernel
theorem d_Mo_back_82 : decode prog_13_method_74_code 82 = .ok (.istore_n 1, 1) := by decide +kernel
theorem d_Mo_back_83 : decode prog_13_method_74_code 83 = .ok (.iload_n 1, 1) := by decide +kernel
theorem d_Mo_back_84 : decode prog_13_method_74_code 84 = .ok (.bipush 10, 2) := by decide +kernel
theorem d_Mo_back_86 : decode prog_13_method_74_code 86 = .ok (.if_icmp .ge 33, 3) := by decide +kernel
theorem d_Mo_back_89 : decode prog_13_method_74_code 89 = .ok (.aload_n 0, 1) := by decide +kernel
theorem d_Mo_back_90 : decode prog_13_method_74_code 90 = .ok (.getfield 27, 3) := by decide +kernel
theorem d_Mo_back_93 : decode prog_13_method_74_code 93 = .ok (.iload_n 1, 1) := by decide +kernel
theorem d_Mo_back_94 : decode prog_13_method_74_code 94 = .ok (.aload_n 0, 1) := by decide +kernel
theorem d_Mo_back_95 : decode prog_13_method_74_code 95 = .ok (.getfield 89, 3) := by decide +kernel
theorem d_Mo_back_98 : decode prog_13_method_74_code 98 = .ok (.iload_n 1, 1) := by decide +kernel
theorem d_Mo_back_99 : decode prog_13_method_74_code 99 = .ok (.iaload, 1) := by decide +kernel
theorem d_Mo_back_100 : decode prog_13_method_74_code 100 = .ok (.iastore, 1) := by decide +kernel
theorem d_Mo_back_101 : decode prog_13_method_74_code 101 = .ok (.aload_n 0, 1) := by decide +kernel
theorem d_Mo_back_102 : decode prog_13_method_74_code 102 = .ok (.getfield 30, 3) := by decide +kernel
theorem d_Mo_back_105 : decode prog_13_method_74_code 105 = .ok (.iload_n 1, 1) := by decide +kernel
theorem d_Mo_back_106 : decode prog_13_method_74_code 106 = .ok (.aload_n 0, 1) := by decide +kernel
theorem d_Mo_back_107 : decode prog_13_method_74_code 107 = .ok (.getfield 92, 3) := by decide +kernel
theorem d_Mo_back_110 : decode prog_13_method_74_code 110 = .ok (.iload_n 1, 1) := by decide +kernel
theorem d_Mo_back_111 : decode prog_13_method_74_code 111 = .ok (.iaload, 1) := by decide +kernel
theorem d_Mo_back_112 : decode prog_13_method_74_code 112 = .ok (.iastore, 1) := by decide +kernel
theorem d_Mo_back_113 : decode prog_13_method_74_code 113 = .ok (.iinc 1 1, 3) := by decide +kernel
theorem d_Mo_back_116 : decode prog_13_method_74_code 116 = .ok (.goto (-33), 3) := by decide +kernel
theorem d_Mo_back_119 : decode prog_13_method_74_code 119 = .ok (.aload_n 0, 1) := by decide +kernel
theorem d_Mo_back_120 : decode prog_13_method_74_code 120 = .ok (.getfield 128, 3) := by decide +kernel
theorem d_Mo_back_123 : decode prog_13_method_74_code 123 = .ok (.ireturn, 1) := by decide +kernel
def f_Mo_back_L83   : Nat → Int32 → Int32 → Int32 → Int32 → Int32 → (Nat → Int32) → (Nat → Int32) → (Nat → Int32) → (Nat → Int32) → (Nat → Int32) → (Nat → Int32) → Option (Int32 × Int32 × Int32 × Int32 × Int32 × (Nat → Int32) × (Nat → Int32) × (Nat → Int32) × (Nat → Int32))
  | 0, _, _, _, _, _, _, _, _, _, _, _ => none
  | n + 1, v1, x_o_lamps, x_o_at, x_o_night, x_o_spent, x_o_had, x_o_told, x_o_keptLast, x_o_last, x_o_keptOften, x_o_often =>
    if (10 : Int32) ≤ v1 then
      (some (x_o_night, x_o_lamps, x_o_at, x_o_night, x_o_spent, x_o_had, x_o_told, x_o_last, x_o_often))
    else
      (if v1 < 0 ∨ 10 ≤ Int32.toNatClampNeg v1 then none else
      if v1 < 0 ∨ 10 ≤ Int32.toNatClampNeg v1 then none else
      if v1 < 0 ∨ 10 ≤ Int32.toNatClampNeg v1 then none else
      if v1 < 0 ∨ 10 ≤ Int32.toNatClampNeg v1 then none else
      f_Mo_back_L83  n (v1 + 1) x_o_lamps x_o_at x_o_night x_o_spent x_o_had x_o_told x_o_keptLast (upd x_o_last (Int32.toNatClampNeg v1) (x_o_keptLast (Int32.toNatClampNeg v1))) x_o_keptOften (upd x_o_often (Int32.toNatClampNeg v1) (x_o_keptOften (Int32.toNatClampNeg v1))))
set_option maxRecDepth 20000 in
theorem w_Mo_back_L83 {p : Program} {l : Launch} {e : Env} {s : State} {m : MethodId} {args : Array Value} {below : List Frame} {meth : Method} {c : Code} {D : va_G} {dA : Nat → ClassId} {A : Nat → Prop} (C : GC p s m args meth c prog_13_method_74_code 2 "OneLampModel" (some .int) D dA A) {a_o a_o_had a_o_told a_o_barred a_o_cost a_o_last a_o_often a_o_changeOf a_o_changeAt a_o_before a_o_behind a_o_tape a_o_act a_o_with a_o_lineMany a_o_testEnd a_o_lineEnd a_o_facts a_o_pile a_o_way a_o_bestWay a_o_wasHad a_o_wasLast a_o_keptHad a_o_keptTold a_o_keptLast a_o_keptOften a_o_kind a_o_traced a_o_holds a_o_size a_o_elements a_o_shifted : Nat} {x_o_code : Int32} {x_o_rest : Int32} {x_o_shy : Int32} {x_o_hasBegun : Bool} {x_o_doneMany : Int32} {x_o_undoneMany : Int32} {x_o_taped : Int32} {x_o_here : Int32} {x_o_fault : Int32} {x_o_open : Int32} {x_o_laid : Int32} {x_o_hasLaw : Bool} {x_o_bestMany : Int32} {x_o_wasAt : Int32} {x_o_wasNight : Int32} {x_o_hasImage : Bool} {x_o_keptLamps : Int32} {x_o_keptAt : Int32} {x_o_keptNight : Int32} {x_o_keptSpent : Int32} {x_o_bodies : Int32} {x_o_traces : Int32} {x_o_keptHad : Nat → Int32} {x_o_keptTold : Nat → Int32} {r0 : Int32} {o_x_o_lamps : Int32} {o_x_o_at : Int32} {o_x_o_night : Int32} {o_x_o_spent : Int32} {o_x_o_had : Nat → Int32} {o_x_o_told : Nat → Int32} {o_x_o_last : Nat → Int32} {o_x_o_often : Nat → Int32}    : ∀ (n : Nat) (v1 : Int32) (x_o_lamps : Int32) (x_o_at : Int32) (x_o_night : Int32) (x_o_spent : Int32) (x_o_had : Nat → Int32) (x_o_told : Nat → Int32) (x_o_keptLast : Nat → Int32) (x_o_last : Nat → Int32) (x_o_keptOften : Nat → Int32) (x_o_often : Nat → Int32), f_Mo_back_L83   n v1 x_o_lamps x_o_at x_o_night x_o_spent x_o_had x_o_told x_o_keptLast x_o_last x_o_keptOften x_o_often = some (r0, o_x_o_lamps, o_x_o_at, o_x_o_night, o_x_o_spent, o_x_o_had, o_x_o_told, o_x_o_last, o_x_o_often) → GG p l e { frames := 0, cells := 0, slots := 0, locals := 0 } s m args below meth c 2 D A 0 0 (MQ below (cQ D A (some (.int r0)) (fun _ : Unit => [O_Mo a_o x_o_code o_x_o_lamps o_x_o_at o_x_o_night o_x_o_spent x_o_rest x_o_shy a_o_had a_o_told a_o_barred a_o_cost a_o_last a_o_often x_o_hasBegun x_o_doneMany x_o_undoneMany a_o_changeOf a_o_changeAt a_o_before a_o_behind a_o_tape x_o_taped x_o_here x_o_fault x_o_open x_o_laid a_o_act a_o_with a_o_lineMany a_o_testEnd a_o_lineEnd a_o_facts a_o_pile x_o_hasLaw a_o_way a_o_bestWay x_o_bestMany a_o_wasHad a_o_wasLast x_o_wasAt x_o_wasNight x_o_hasImage x_o_keptLamps x_o_keptAt x_o_keptNight x_o_keptSpent a_o_keptHad a_o_keptTold a_o_keptLast a_o_keptOften x_o_bodies a_o_kind x_o_traces a_o_traced a_o_holds a_o_size a_o_elements a_o_shifted, A_Z dA a_o_keptHad 1024 x_o_keptHad, A_Z dA a_o_had 1024 o_x_o_had, A_Z dA a_o_keptTold 1024 x_o_keptTold, A_Z dA a_o_told 1024 o_x_o_told, A_I dA a_o_keptLast 10 x_o_keptLast, A_I dA a_o_last 10 o_x_o_last, A_I dA a_o_keptOften 10 x_o_keptOften, A_I dA a_o_often 10 o_x_o_often])) args s 0 0 A) 83 [(0, .ref a_o), (1, .int v1)] [] [O_Mo a_o x_o_code x_o_lamps x_o_at x_o_night x_o_spent x_o_rest x_o_shy a_o_had a_o_told a_o_barred a_o_cost a_o_last a_o_often x_o_hasBegun x_o_doneMany x_o_undoneMany a_o_changeOf a_o_changeAt a_o_before a_o_behind a_o_tape x_o_taped x_o_here x_o_fault x_o_open x_o_laid a_o_act a_o_with a_o_lineMany a_o_testEnd a_o_lineEnd a_o_facts a_o_pile x_o_hasLaw a_o_way a_o_bestWay x_o_bestMany a_o_wasHad a_o_wasLast x_o_wasAt x_o_wasNight x_o_hasImage x_o_keptLamps x_o_keptAt x_o_keptNight x_o_keptSpent a_o_keptHad a_o_keptTold a_o_keptLast a_o_keptOften x_o_bodies a_o_kind x_o_traces a_o_traced a_o_holds a_o_size a_o_elements a_o_shifted, A_Z dA a_o_keptHad 1024 x_o_keptHad, A_Z dA a_o_had 1024 x_o_had, A_Z dA a_o_keptTold 1024 x_o_keptTold, A_Z dA a_o_told 1024 x_o_told, A_I dA a_o_keptLast 10 x_o_keptLast, A_I dA a_o_last 10 x_o_last, A_I dA a_o_keptOften 10 x_o_keptOften, A_I dA a_o_often 10 x_o_often] := by
  intro n
  induction n with
  | zero =>
    intro v1 x_o_lamps x_o_at x_o_night x_o_spent x_o_had x_o_told x_o_keptLast x_o_last x_o_keptOften x_o_often hf
    cases hf
  | succ n ih =>
    intro v1 x_o_lamps x_o_at x_o_night x_o_spent x_o_had x_o_told x_o_keptLast x_o_last x_o_keptOften x_o_often hf
    unfold f_Mo_back_L83 at hf
    refine g_iload_n (pc' := 84) C 1 d_Mo_back_83 rfl rfl ?_
    refine g_bipush (pc' := 86) (v := 10) C d_Mo_back_84 rfl rfl ?_
    refine g_icmp_ge (pc' := 89) (tgt := 119) C d_Mo_back_86 rfl rfl (fun h => ?_) (fun h => ?_)
    · replace hf := g_ip h hf
      refine g_aload_n (pc' := 120) C 0 d_Mo_back_119 rfl rfl ?_
      refine g_get (pc' := 123) C kf_Mo 3 mw_4_141 d_Mo_back_120 rfl 0 rfl (by decide) rfl ?_
      replace hf := g_o2 hf; obtain ⟨h1, hf⟩ := hf; subst h1
      replace hf := g_o2 hf; obtain ⟨h1, hf⟩ := hf; subst h1
      replace hf := g_o2 hf; obtain ⟨h1, hf⟩ := hf; subst h1
      replace hf := g_o2 hf; obtain ⟨h1, hf⟩ := hf; subst h1
      replace hf := g_o2 hf; obtain ⟨h1, hf⟩ := hf; subst h1
      replace hf := g_o2 hf; obtain ⟨h1, hf⟩ := hf; subst h1
      replace hf := g_o2 hf; obtain ⟨h1, hf⟩ := hf; subst h1
      replace hf := g_o2 hf; obtain ⟨h1, hf⟩ := hf; subst h1
      replace hf := Option.some.inj hf; subst hf
      exact g_iret C d_Mo_back_123 () rfl
    · replace hf := g_in h hf
      refine g_aload_n (pc' := 90) C 0 d_Mo_back_89 rfl rfl ?_
      refine g_get (pc' := 93) C kf_Mo 11 mw_4_149 d_Mo_back_90 rfl 0 rfl (by decide) rfl ?_
      refine g_iload_n (pc' := 94) C 1 d_Mo_back_93 rfl rfl ?_
      refine g_aload_n (pc' := 95) C 0 d_Mo_back_94 rfl rfl ?_
      refine g_get (pc' := 98) C kf_Mo 48 mw_4_186 d_Mo_back_95 rfl 0 rfl (by decide) rfl ?_
      refine g_iload_n (pc' := 99) C 1 d_Mo_back_98 rfl rfl ?_
      have hb := g_ck hf
      replace hf := g_in hb hf
      refine g_iald (pc' := 100) C d_Mo_back_99 rfl 5 rfl hb ?_
      have hb := g_ck hf
      replace hf := g_in hb hf
      refine g_iast (pc' := 101) (ws' := [O_Mo a_o x_o_code x_o_lamps x_o_at x_o_night x_o_spent x_o_rest x_o_shy a_o_had a_o_told a_o_barred a_o_cost a_o_last a_o_often x_o_hasBegun x_o_doneMany x_o_undoneMany a_o_changeOf a_o_changeAt a_o_before a_o_behind a_o_tape x_o_taped x_o_here x_o_fault x_o_open x_o_laid a_o_act a_o_with a_o_lineMany a_o_testEnd a_o_lineEnd a_o_facts a_o_pile x_o_hasLaw a_o_way a_o_bestWay x_o_bestMany a_o_wasHad a_o_wasLast x_o_wasAt x_o_wasNight x_o_hasImage x_o_keptLamps x_o_keptAt x_o_keptNight x_o_keptSpent a_o_keptHad a_o_keptTold a_o_keptLast a_o_keptOften x_o_bodies a_o_kind x_o_traces a_o_traced a_o_holds a_o_size a_o_elements a_o_shifted, A_Z dA a_o_keptHad 1024 x_o_keptHad, A_Z dA a_o_had 1024 x_o_had, A_Z dA a_o_keptTold 1024 x_o_keptTold, A_Z dA a_o_told 1024 x_o_told, A_I dA a_o_keptLast 10 x_o_keptLast, A_I dA a_o_last 10 (upd x_o_last (Int32.toNatClampNeg v1) (x_o_keptLast (Int32.toNatClampNeg v1))), A_I dA a_o_keptOften 10 x_o_keptOften, A_I dA a_o_often 10 x_o_often]) C d_Mo_back_100 rfl 6 rfl hb rfl ?_
      refine g_aload_n (pc' := 102) C 0 d_Mo_back_101 rfl rfl ?_
      refine g_get (pc' := 105) C kf_Mo 12 mw_4_150 d_Mo_back_102 rfl 0 rfl (by decide) rfl ?_
      refine g_iload_n (pc' := 106) C 1 d_Mo_back_105 rfl rfl ?_
      refine g_aload_n (pc' := 107) C 0 d_Mo_back_106 rfl rfl ?_
      refine g_get (pc' := 110) C kf_Mo 49 mw_4_187 d_Mo_back_107 rfl 0 rfl (by decide) rfl ?_
      refine g_iload_n (pc' := 111) C 1 d_Mo_back_110 rfl rfl ?_
      have hb := g_ck hf
      replace hf := g_in hb hf
      refine g_iald (pc' := 112) C d_Mo_back_111 rfl 7 rfl hb ?_
      have hb := g_ck hf
      replace hf := g_in hb hf
      refine g_iast (pc' := 113) (ws' := [O_Mo a_o x_o_code x_o_lamps x_o_at x_o_night x_o_spent x_o_rest x_o_shy a_o_had a_o_told a_o_barred a_o_cost a_o_last a_o_often x_o_hasBegun x_o_doneMany x_o_undoneMany a_o_changeOf a_o_changeAt a_o_before a_o_behind a_o_tape x_o_taped x_o_here x_o_fault x_o_open x_o_laid a_o_act a_o_with a_o_lineMany a_o_testEnd a_o_lineEnd a_o_facts a_o_pile x_o_hasLaw a_o_way a_o_bestWay x_o_bestMany a_o_wasHad a_o_wasLast x_o_wasAt x_o_wasNight x_o_hasImage x_o_keptLamps x_o_keptAt x_o_keptNight x_o_keptSpent a_o_keptHad a_o_keptTold a_o_keptLast a_o_keptOften x_o_bodies a_o_kind x_o_traces a_o_traced a_o_holds a_o_size a_o_elements a_o_shifted, A_Z dA a_o_keptHad 1024 x_o_keptHad, A_Z dA a_o_had 1024 x_o_had, A_Z dA a_o_keptTold 1024 x_o_keptTold, A_Z dA a_o_told 1024 x_o_told, A_I dA a_o_keptLast 10 x_o_keptLast, A_I dA a_o_last 10 (upd x_o_last (Int32.toNatClampNeg v1) (x_o_keptLast (Int32.toNatClampNeg v1))), A_I dA a_o_keptOften 10 x_o_keptOften, A_I dA a_o_often 10 (upd x_o_often (Int32.toNatClampNeg v1) (x_o_keptOften (Int32.toNatClampNeg v1)))]) C d_Mo_back_112 rfl 8 rfl hb rfl ?_
      refine g_iinc (pc' := 116) (j := 1) (v := (v1 + 1)) (lv' := [(1, .int (v1 + 1)), (0, .ref a_o)]) C d_Mo_back_113 rfl rfl rfl (by decide) rfl ?_
      refine g_goto (tgt := 83) C d_Mo_back_116 rfl ?_
      refine g_lv (lv' := [(0, .ref a_o), (1, .int (v1 + 1))]) [1, 0] rfl ?_
      exact ih (v1 + 1) x_o_lamps x_o_at x_o_night x_o_spent x_o_had x_o_told x_o_keptLast (upd x_o_last (Int32.toNatClampNeg v1) (x_o_keptLast (Int32.toNatClampNeg v1))) x_o_keptOften (upd x_o_often (Int32.toNatClampNeg v1) (x_o_keptOften (Int32.toNatClampNeg v1))) hf
def f_Mo_back_L44   : Nat → Int32 → Int32 → Int32 → Int32 → Int32 → (Nat → Int32) → (Nat → Int32) → (Nat → Int32) → (Nat → Int32) → (Nat → Int32) → (Nat → Int32) → (Nat → Int32) → (Nat → Int32) → Option (Int32 × Int32 × Int32 × Int32 × Int32 × (Nat → Int32) × (Nat → Int32) × (Nat → Int32) × (Nat → Int32))
  | 0, _, _, _, _, _, _, _, _, _, _, _, _, _ => none
  | n + 1, v1, x_o_lamps, x_o_at, x_o_night, x_o_spent, x_o_keptHad, x_o_had, x_o_keptTold, x_o_told, x_o_keptLast, x_o_last, x_o_keptOften, x_o_often =>
    if (1024 : Int32) ≤ v1 then
      (f_Mo_back_L83  3000 (0 : Int32) x_o_lamps x_o_at x_o_night x_o_spent x_o_had x_o_told x_o_keptLast x_o_last x_o_keptOften x_o_often)
    else
      (if v1 < 0 ∨ 1024 ≤ Int32.toNatClampNeg v1 then none else
      if v1 < 0 ∨ 1024 ≤ Int32.toNatClampNeg v1 then none else
      if v1 < 0 ∨ 1024 ≤ Int32.toNatClampNeg v1 then none else
      if v1 < 0 ∨ 1024 ≤ Int32.toNatClampNeg v1 then none else
      f_Mo_back_L44  n (v1 + 1) x_o_lamps x_o_at x_o_night x_o_spent x_o_keptHad (upd x_o_had (Int32.toNatClampNeg v1) (vp_nar .boolean (x_o_keptHad (Int32.toNatClampNeg v1)))) x_o_keptTold (upd x_o_told (Int32.toNatClampNeg v1) (vp_nar .boolean (x_o_keptTold (Int32.toNatClampNeg v1)))) x_o_keptLast x_o_last x_o_keptOften x_o_often)
set_option maxRecDepth 20000 in
theorem w_Mo_back_L44 {p : Program} {l : Launch} {e : Env} {s : State} {m : MethodId} {args : Array Value} {below : List Frame} {meth : Method} {c : Code} {D : va_G} {dA : Nat → ClassId} {A : Nat → Prop} (C : GC p s m args meth c prog_13_method_74_code 2 "OneLampModel" (some .int) D dA A) {a_o a_o_had a_o_told a_o_barred a_o_cost a_o_last a_o_often a_o_changeOf a_o_changeAt a_o_before a_o_behind a_o_tape a_o_act a_o_with a_o_lineMany a_o_testEnd a_o_lineEnd a_o_facts a_o_pile a_o_way a_o_bestWay a_o_wasHad a_o_wasLast a_o_keptHad a_o_keptTold a_o_keptLast a_o_keptOften a_o_kind a_o_traced a_o_holds a_o_size a_o_elements a_o_shifted : Nat} {x_o_code : Int32} {x_o_rest : Int32} {x_o_shy : Int32} {x_o_hasBegun : Bool} {x_o_doneMany : Int32} {x_o_undoneMany : Int32} {x_o_taped : Int32} {x_o_here : Int32} {x_o_fault : Int32} {x_o_open : Int32} {x_o_laid : Int32} {x_o_hasLaw : Bool} {x_o_bestMany : Int32} {x_o_wasAt : Int32} {x_o_wasNight : Int32} {x_o_hasImage : Bool} {x_o_keptLamps : Int32} {x_o_keptAt : Int32} {x_o_keptNight : Int32} {x_o_keptSpent : Int32} {x_o_bodies : Int32} {x_o_traces : Int32} {r0 : Int32} {o_x_o_lamps : Int32} {o_x_o_at : Int32} {o_x_o_night : Int32} {o_x_o_spent : Int32} {o_x_o_had : Nat → Int32} {o_x_o_told : Nat → Int32} {o_x_o_last : Nat → Int32} {o_x_o_often : Nat → Int32}    : ∀ (n : Nat) (v1 : Int32) (x_o_lamps : Int32) (x_o_at : Int32) (x_o_night : Int32) (x_o_spent : Int32) (x_o_keptHad : Nat → Int32) (x_o_had : Nat → Int32) (x_o_keptTold : Nat → Int32) (x_o_told : Nat → Int32) (x_o_keptLast : Nat → Int32) (x_o_last : Nat → Int32) (x_o_keptOften : Nat → Int32) (x_o_often : Nat → Int32), f_Mo_back_L44   n v1 x_o_lamps x_o_at x_o_night x_o_spent x_o_keptHad x_o_had x_o_keptTold x_o_told x_o_keptLast x_o_last x_o_keptOften x_o_often = some (r0, o_x_o_lamps, o_x_o_at, o_x_o_night, o_x_o_spent, o_x_o_had, o_x_o_told, o_x_o_last, o_x_o_often) → GG p l e { frames := 0, cells := 0, slots := 0, locals := 0 } s m args below meth c 2 D A 0 0 (MQ below (cQ D A (some (.int r0)) (fun _ : Unit => [O_Mo a_o x_o_code o_x_o_lamps o_x_o_at o_x_o_night o_x_o_spent x_o_rest x_o_shy a_o_had a_o_told a_o_barred a_o_cost a_o_last a_o_often x_o_hasBegun x_o_doneMany x_o_undoneMany a_o_changeOf a_o_changeAt a_o_before a_o_behind a_o_tape x_o_taped x_o_here x_o_fault x_o_open x_o_laid a_o_act a_o_with a_o_lineMany a_o_testEnd a_o_lineEnd a_o_facts a_o_pile x_o_hasLaw a_o_way a_o_bestWay x_o_bestMany a_o_wasHad a_o_wasLast x_o_wasAt x_o_wasNight x_o_hasImage x_o_keptLamps x_o_keptAt x_o_keptNight x_o_keptSpent a_o_keptHad a_o_keptTold a_o_keptLast a_o_keptOften x_o_bodies a_o_kind x_o_traces a_o_traced a_o_holds a_o_size a_o_elements a_o_shifted, A_Z dA a_o_keptHad 1024 x_o_keptHad, A_Z dA a_o_had 1024 o_x_o_had, A_Z dA a_o_keptTold 1024 x_o_keptTold, A_Z dA a_o_told 1024 o_x_o_told, A_I dA a_o_keptLast 10 x_o_keptLast, A_I dA a_o_last 10 o_x_o_last, A_I dA a_o_keptOften 10 x_o_keptOften, A_I dA a_o_often 10 o_x_o_often])) args s 0 0 A) 44 [(0, .ref a_o), (1, .int v1)] [] [O_Mo a_o x_o_code x_o_lamps x_o_at x_o_night x_o_spent x_o_rest x_o_shy a_o_had a_o_told a_o_barred a_o_cost a_o_last a_o_often x_o_hasBegun x_o_doneMany x_o_undoneMany a_o_changeOf a_o_changeAt a_o_before a_o_behind a_o_tape x_o_taped x_o_here x_o_fault x_o_open x_o_laid a_o_act a_o_with a_o_lineMany a_o_testEnd a_o_lineEnd a_o_facts a_o_pile x_o_hasLaw a_o_way a_o_bestWay x_o_bestMany a_o_wasHad a_o_wasLast x_o_wasAt x_o_wasNight x_o_hasImage x_o_keptLamps x_o_keptAt x_o_keptNight x_o_keptSpent a_o_keptHad a_o_keptTold a_o_keptLast a_o_keptOften x_o_bodies a_o_kind x_o_traces a_o_traced a_o_holds a_o_size a_o_elements a_o_shifted, A_Z dA a_o_keptHad 1024 x_o_keptHad, A_Z dA a_o_had 1024 x_o_had, A_Z dA a_o_keptTold 1024 x_o_keptTold, A_Z dA a_o_told 1024 x_o_told, A_I dA a_o_keptLast 10 x_o_keptLast, A_I dA a_o_last 10 x_o_last, A_I dA a_o_keptOften 10 x_o_keptOften, A_I dA a_o_often 10 x_o_often] := by
  intro n
  induction n with
  | zero =>
    intro v1 x_o_lamps x_o_at x_o_night x_o_spent x_o_keptHad x_o_had x_o_keptTold x_o_told x_o_keptLast x_o_last x_o_keptOften x_o_often hf
    cases hf
  | succ n ih =>
    intro v1 x_o_lamps x_o_at x_o_night x_o_spent x_o_keptHad x_o_had x_o_keptTold x_o_told x_o_keptLast x_o_last x_o_keptOften x_o_often hf
    unfold f_Mo_back_L44 at hf
    refine g_iload_n (pc' := 45) C 1 d_Mo_back_44 rfl rfl ?_
    refine g_sipush (pc' := 48) (v := 1024) C d_Mo_back_45 rfl rfl ?_
    refine g_icmp_ge (pc' := 51) (tgt := 81) C d_Mo_back_48 rfl rfl (fun h => ?_) (fun h => ?_)
    · replace hf := g_ip h hf
      refine g_iconst (pc' := 82) (v := 0) C d_Mo_back_81 rfl rfl ?_
      refine g_istore_n (pc' := 83) (lv' := [(1, .int 0), (0, .ref a_o)]) C d_Mo_back_82 rfl (by decide) rfl ?_
      refine g_lv (lv' := [(0, .ref a_o), (1, .int (0 : Int32))]) [1, 0] rfl ?_
      exact w_Mo_back_L83 (a_o := a_o) (a_o_had := a_o_had) (a_o_told := a_o_told) (a_o_barred := a_o_barred) (a_o_cost := a_o_cost) (a_o_last := a_o_last) (a_o_often := a_o_often) (a_o_changeOf := a_o_changeOf) (a_o_changeAt := a_o_changeAt) (a_o_before := a_o_before) (a_o_behind := a_o_behind) (a_o_tape := a_o_tape) (a_o_act := a_o_act) (a_o_with := a_o_with) (a_o_lineMany := a_o_lineMany) (a_o_testEnd := a_o_testEnd) (a_o_lineEnd := a_o_lineEnd) (a_o_facts := a_o_facts) (a_o_pile := a_o_pile) (a_o_way := a_o_way) (a_o_bestWay := a_o_bestWay) (a_o_wasHad := a_o_wasHad) (a_o_wasLast := a_o_wasLast) (a_o_keptHad := a_o_keptHad) (a_o_keptTold := a_o_keptTold) (a_o_keptLast := a_o_keptLast) (a_o_keptOften := a_o_keptOften) (a_o_kind := a_o_kind) (a_o_traced := a_o_traced) (a_o_holds := a_o_holds) (a_o_size := a_o_size) (a_o_elements := a_o_elements) (a_o_shifted := a_o_shifted) C   3000 (0 : Int32) x_o_lamps x_o_at x_o_night x_o_spent x_o_had x_o_told x_o_keptLast x_o_last x_o_keptOften x_o_often hf
    · replace hf := g_in h hf
      refine g_aload_n (pc' := 52) C 0 d_Mo_back_51 rfl rfl ?_
      refine g_get (pc' := 55) C kf_Mo 7 mw_4_145 d_Mo_back_52 rfl 0 rfl (by decide) rfl ?_
      refine g_iload_n (pc' := 56) C 1 d_Mo_back_55 rfl rfl ?_
      refine g_aload_n (pc' := 57) C 0 d_Mo_back_56 rfl rfl ?_
      refine g_get (pc' := 60) C kf_Mo 46 mw_4_184 d_Mo_back_57 rfl 0 rfl (by decide) rfl ?_
      refine g_iload_n (pc' := 61) C 1 d_Mo_back_60 rfl rfl ?_
      have hb := g_ck hf
      replace hf := g_in hb hf
      refine g_zald (pc' := 62) C d_Mo_back_61 rfl 1 rfl hb ?_
      have hb := g_ck hf
      replace hf := g_in hb hf
      refine g_zast (pc' := 63) (ws' := [O_Mo a_o x_o_code x_o_lamps x_o_at x_o_night x_o_spent x_o_rest x_o_shy a_o_had a_o_told a_o_barred a_o_cost a_o_last a_o_often x_o_hasBegun x_o_doneMany x_o_undoneMany a_o_changeOf a_o_changeAt a_o_before a_o_behind a_o_tape x_o_taped x_o_here x_o_fault x_o_open x_o_laid a_o_act a_o_with a_o_lineMany a_o_testEnd a_o_lineEnd a_o_facts a_o_pile x_o_hasLaw a_o_way a_o_bestWay x_o_bestMany a_o_wasHad a_o_wasLast x_o_wasAt x_o_wasNight x_o_hasImage x_o_keptLamps x_o_keptAt x_o_keptNight x_o_keptSpent a_o_keptHad a_o_keptTold a_o_keptLast a_o_keptOften x_o_bodies a_o_kind x_o_traces a_o_traced a_o_holds a_o_size a_o_elements a_o_shifted, A_Z dA a_o_keptHad 1024 x_o_keptHad, A_Z dA a_o_had 1024 (upd x_o_had (Int32.toNatClampNeg v1) (vp_nar .boolean (x_o_keptHad (Int32.toNatClampNeg v1)))), A_Z dA a_o_keptTold 1024 x_o_keptTold, A_Z dA a_o_told 1024 x_o_told, A_I dA a_o_keptLast 10 x_o_keptLast, A_I dA a_o_last 10 x_o_last, A_I dA a_o_keptOften 10 x_o_keptOften, A_I dA a_o_often 10 x_o_often]) C d_Mo_back_62 rfl 2 rfl hb rfl ?_
      refine g_aload_n (pc' := 64) C 0 d_Mo_back_63 rfl rfl ?_
      refine g_get (pc' := 67) C kf_Mo 8 mw_4_146 d_Mo_back_64 rfl 0 rfl (by decide) rfl ?_
      refine g_iload_n (pc' := 68) C 1 d_Mo_back_67 rfl rfl ?_
      refine g_aload_n (pc' := 69) C 0 d_Mo_back_68 rfl rfl ?_
      refine g_get (pc' := 72) C kf_Mo 47 mw_4_185 d_Mo_back_69 rfl 0 rfl (by decide) rfl ?_
      refine g_iload_n (pc' := 73) C 1 d_Mo_back_72 rfl rfl ?_
      have hb := g_ck hf
      replace hf := g_in hb hf
      refine g_zald (pc' := 74) C d_Mo_back_73 rfl 3 rfl hb ?_
      have hb := g_ck hf
      replace hf := g_in hb hf
      refine g_zast (pc' := 75) (ws' := [O_Mo a_o x_o_code x_o_lamps x_o_at x_o_night x_o_spent x_o_rest x_o_shy a_o_had a_o_told a_o_barred a_o_cost a_o_last a_o_often x_o_hasBegun x_o_doneMany x_o_undoneMany a_o_changeOf a_o_changeAt a_o_before a_o_behind a_o_tape x_o_taped x_o_here x_o_fault x_o_open x_o_laid a_o_act a_o_with a_o_lineMany a_o_testEnd a_o_lineEnd a_o_facts a_o_pile x_o_hasLaw a_o_way a_o_bestWay x_o_bestMany a_o_wasHad a_o_wasLast x_o_wasAt x_o_wasNight x_o_hasImage x_o_keptLamps x_o_keptAt x_o_keptNight x_o_keptSpent a_o_keptHad a_o_keptTold a_o_keptLast a_o_keptOften x_o_bodies a_o_kind x_o_traces a_o_traced a_o_holds a_o_size a_o_elements a_o_shifted, A_Z dA a_o_keptHad 1024 x_o_keptHad, A_Z dA a_o_had 1024 (upd x_o_had (Int32.toNatClampNeg v1) (vp_nar .boolean (x_o_keptHad (Int32.toNatClampNeg v1)))), A_Z dA a_o_keptTold 1024 x_o_keptTold, A_Z dA a_o_told 1024 (upd x_o_told (Int32.toNatClampNeg v1) (vp_nar .boolean (x_o_keptTold (Int32.toNatClampNeg v1)))), A_I dA a_o_keptLast 10 x_o_keptLast, A_I dA a_o_last 10 x_o_last, A_I dA a_o_keptOften 10 x_o_keptOften, A_I dA a_o_often 10 x_o_often]) C d_Mo_back_74 rfl 4 rfl hb rfl ?_
      refine g_iinc (pc' := 78) (j := 1) (v := (v1 + 1)) (lv' := [(1, .int (v1 + 1)), (0, .ref a_o)]) C d_Mo_back_75 rfl rfl rfl (by decide) rfl ?_
      refine g_goto (tgt := 44) C d_Mo_back_78 rfl ?_
      refine g_lv (lv' := [(0, .ref a_o), (1, .int (v1 + 1))]) [1, 0] rfl ?_
      exact ih (v1 + 1) x_o_lamps x_o_at x_o_night x_o_spent x_o_keptHad (upd x_o_had (Int32.toNatClampNeg v1) (vp_nar .boolean (x_o_keptHad (Int32.toNatClampNeg v1)))) x_o_keptTold (upd x_o_told (Int32.toNatClampNeg v1) (vp_nar .boolean (x_o_keptTold (Int32.toNatClampNeg v1)))) x_o_keptLast x_o_last x_o_keptOften x_o_often hf
def f_Mo_back  (x_o_lamps : Int32) (x_o_at : Int32) (x_o_night : Int32) (x_o_spent : Int32) (x_o_hasImage : Bool) (x_o_keptLamps : Int32) (x_o_keptAt : Int32) (x_o_keptNight : Int32) (x_o_keptSpent : Int32) (x_o_keptHad : Nat → Int32) (x_o_had : Nat → Int32) (x_o_keptTold : Nat → Int32) (x_o_told : Nat → Int32) (x_o_keptLast : Nat → Int32) (x_o_last : Nat → Int32) (x_o_keptOften : Nat → Int32) (x_o_often : Nat → Int32) : Option (Int32 × Int32 × Int32 × Int32 × Int32 × (Nat → Int32) × (Nat → Int32) × (Nat → Int32) × (Nat → Int32)) :=
  if x_o_hasImage = true then
    (f_Mo_back_L44  3000 (0 : Int32) x_o_keptLamps x_o_keptAt x_o_keptNight x_o_keptSpent x_o_keptHad x_o_had x_o_keptTold x_o_told x_o_keptLast x_o_last x_o_keptOften x_o_often)
  else
    (some ((-5 : Int32), x_o_lamps, x_o_at, x_o_night, x_o_spent, x_o_had, x_o_told, x_o_last, x_o_often))
set_option maxRecDepth 20000 in
theorem c_Mo_back {l : Launch} {D : va_G} {dA : Nat → ClassId} {a_o a_o_had a_o_told a_o_barred a_o_cost a_o_last a_o_often a_o_changeOf a_o_changeAt a_o_before a_o_behind a_o_tape a_o_act a_o_with a_o_lineMany a_o_testEnd a_o_lineEnd a_o_facts a_o_pile a_o_way a_o_bestWay a_o_wasHad a_o_wasLast a_o_keptHad a_o_keptTold a_o_keptLast a_o_keptOften a_o_kind a_o_traced a_o_holds a_o_size a_o_elements a_o_shifted : Nat} {x_o_code : Int32} {x_o_rest : Int32} {x_o_shy : Int32} {x_o_hasBegun : Bool} {x_o_doneMany : Int32} {x_o_undoneMany : Int32} {x_o_taped : Int32} {x_o_here : Int32} {x_o_fault : Int32} {x_o_open : Int32} {x_o_laid : Int32} {x_o_hasLaw : Bool} {x_o_bestMany : Int32} {x_o_wasAt : Int32} {x_o_wasNight : Int32} {x_o_bodies : Int32} {x_o_traces : Int32} {x_o_lamps : Int32} {x_o_at : Int32} {x_o_night : Int32} {x_o_spent : Int32} {x_o_hasImage : Bool} {x_o_keptLamps : Int32} {x_o_keptAt : Int32} {x_o_keptNight : Int32} {x_o_keptSpent : Int32} {x_o_keptHad : Nat → Int32} {x_o_had : Nat → Int32} {x_o_keptTold : Nat → Int32} {x_o_told : Nat → Int32} {x_o_keptLast : Nat → Int32} {x_o_last : Nat → Int32} {x_o_keptOften : Nat → Int32} {x_o_often : Nat → Int32} {r0 : Int32} {o_x_o_lamps : Int32} {o_x_o_at : Int32} {o_x_o_night : Int32} {o_x_o_spent : Int32} {o_x_o_had : Nat → Int32} {o_x_o_told : Nat → Int32} {o_x_o_last : Nat → Int32} {o_x_o_often : Nat → Int32}   (hf : f_Mo_back  x_o_lamps x_o_at x_o_night x_o_spent x_o_hasImage x_o_keptLamps x_o_keptAt x_o_keptNight x_o_keptSpent x_o_keptHad x_o_had x_o_keptTold x_o_told x_o_keptLast x_o_last x_o_keptOften x_o_often = some (r0, o_x_o_lamps, o_x_o_at, o_x_o_night, o_x_o_spent, o_x_o_had, o_x_o_told, o_x_o_last, o_x_o_often)) : CT l y_Mo_back prog_13_method_74_code 2 (some .int) { frames := 0, cells := 0, slots := 0, locals := 0 } D dA [.ref a_o] [O_Mo a_o x_o_code x_o_lamps x_o_at x_o_night x_o_spent x_o_rest x_o_shy a_o_had a_o_told a_o_barred a_o_cost a_o_last a_o_often x_o_hasBegun x_o_doneMany x_o_undoneMany a_o_changeOf a_o_changeAt a_o_before a_o_behind a_o_tape x_o_taped x_o_here x_o_fault x_o_open x_o_laid a_o_act a_o_with a_o_lineMany a_o_testEnd a_o_lineEnd a_o_facts a_o_pile x_o_hasLaw a_o_way a_o_bestWay x_o_bestMany a_o_wasHad a_o_wasLast x_o_wasAt x_o_wasNight x_o_hasImage x_o_keptLamps x_o_keptAt x_o_keptNight x_o_keptSpent a_o_keptHad a_o_keptTold a_o_keptLast a_o_keptOften x_o_bodies a_o_kind x_o_traces a_o_traced a_o_holds a_o_size a_o_elements a_o_shifted, A_Z dA a_o_keptHad 1024 x_o_keptHad, A_Z dA a_o_had 1024 x_o_had, A_Z dA a_o_keptTold 1024 x_o_keptTold, A_Z dA a_o_told 1024 x_o_told, A_I dA a_o_keptLast 10 x_o_keptLast, A_I dA a_o_last 10 x_o_last, A_I dA a_o_keptOften 10 x_o_keptOften, A_I dA a_o_often 10 x_o_often] (some (.int r0)) (fun _ : Unit => [O_Mo a_o x_o_code o_x_o_lamps o_x_o_at o_x_o_night o_x_o_spent x_o_rest x_o_shy a_o_had a_o_told a_o_barred a_o_cost a_o_last a_o_often x_o_hasBegun x_o_doneMany x_o_undoneMany a_o_changeOf a_o_changeAt a_o_before a_o_behind a_o_tape x_o_taped x_o_here x_o_fault x_o_open x_o_laid a_o_act a_o_with a_o_lineMany a_o_testEnd a_o_lineEnd a_o_facts a_o_pile x_o_hasLaw a_o_way a_o_bestWay x_o_bestMany a_o_wasHad a_o_wasLast x_o_wasAt x_o_wasNight x_o_hasImage x_o_keptLamps x_o_keptAt x_o_keptNight x_o_keptSpent a_o_keptHad a_o_keptTold a_o_keptLast a_o_keptOften x_o_bodies a_o_kind x_o_traces a_o_traced a_o_holds a_o_size a_o_elements a_o_shifted, A_Z dA a_o_keptHad 1024 x_o_keptHad, A_Z dA a_o_had 1024 o_x_o_had, A_Z dA a_o_keptTold 1024 x_o_keptTold, A_Z dA a_o_told 1024 o_x_o_told, A_I dA a_o_keptLast 10 x_o_keptLast, A_I dA a_o_last 10 o_x_o_last, A_I dA a_o_keptOften 10 x_o_keptOften, A_I dA a_o_often 10 o_x_o_often]) := by
  refine ct_intro "OneLampModel" rfl (by decide +kernel) (Nat.le_of_ble_eq_true rfl) [(0, .ref a_o)] rfl (fun _ C => ?_)
  unfold f_Mo_back at hf
  refine g_aload_n (pc' := 1) C 0 d_Mo_back_0 rfl rfl ?_
  refine g_get (pc' := 4) C kf_Mo 41 mw_4_179 d_Mo_back_1 rfl 0 rfl (by decide) rfl ?_
  refine g_if_neb (pc' := 7) (tgt := 10) C d_Mo_back_4 rfl rfl (fun h => ?_) (fun h => ?_)
  · replace hf := g_bt h hf
    refine g_aload_n (pc' := 11) C 0 d_Mo_back_10 rfl rfl ?_
    refine g_aload_n (pc' := 12) C 0 d_Mo_back_11 rfl rfl ?_
    refine g_get (pc' := 15) C kf_Mo 42 mw_4_180 d_Mo_back_12 rfl 0 rfl (by decide) rfl ?_
    refine g_put (pc' := 18) (ws' := [O_Mo a_o x_o_code x_o_keptLamps x_o_at x_o_night x_o_spent x_o_rest x_o_shy a_o_had a_o_told a_o_barred a_o_cost a_o_last a_o_often x_o_hasBegun x_o_doneMany x_o_undoneMany a_o_changeOf a_o_changeAt a_o_before a_o_behind a_o_tape x_o_taped x_o_here x_o_fault x_o_open x_o_laid a_o_act a_o_with a_o_lineMany a_o_testEnd a_o_lineEnd a_o_facts a_o_pile x_o_hasLaw a_o_way a_o_bestWay x_o_bestMany a_o_wasHad a_o_wasLast x_o_wasAt x_o_wasNight x_o_hasImage x_o_keptLamps x_o_keptAt x_o_keptNight x_o_keptSpent a_o_keptHad a_o_keptTold a_o_keptLast a_o_keptOften x_o_bodies a_o_kind x_o_traces a_o_traced a_o_holds a_o_size a_o_elements a_o_shifted, A_Z dA a_o_keptHad 1024 x_o_keptHad, A_Z dA a_o_had 1024 x_o_had, A_Z dA a_o_keptTold 1024 x_o_keptTold, A_Z dA a_o_told 1024 x_o_told, A_I dA a_o_keptLast 10 x_o_keptLast, A_I dA a_o_last 10 x_o_last, A_I dA a_o_keptOften 10 x_o_keptOften, A_I dA a_o_often 10 x_o_often]) C kf_Mo 1 mw_4_139 d_Mo_back_15 rfl 0 rfl (by decide) rfl rfl rfl (Nat.le_of_ble_eq_true rfl) rfl ?_
    refine g_aload_n (pc' := 19) C 0 d_Mo_back_18 rfl rfl ?_
    refine g_aload_n (pc' := 20) C 0 d_Mo_back_19 rfl rfl ?_
    refine g_get (pc' := 23) C kf_Mo 43 mw_4_181 d_Mo_back_20 rfl 0 rfl (by decide) rfl ?_
    refine g_put (pc' := 26) (ws' := [O_Mo a_o x_o_code x_o_keptLamps x_o_keptAt x_o_night x_o_spent x_o_rest x_o_shy a_o_had a_o_told a_o_barred a_o_cost a_o_last a_o_often x_o_hasBegun x_o_doneMany x_o_undoneMany a_o_changeOf a_o_changeAt a_o_before a_o_behind a_o_tape x_o_taped x_o_here x_o_fault x_o_open x_o_laid a_o_act a_o_with a_o_lineMany a_o_testEnd a_o_lineEnd a_o_facts a_o_pile x_o_hasLaw a_o_way a_o_bestWay x_o_bestMany a_o_wasHad a_o_wasLast x_o_wasAt x_o_wasNight x_o_hasImage x_o_keptLamps x_o_keptAt x_o_keptNight x_o_keptSpent a_o_keptHad a_o_keptTold a_o_keptLast a_o_keptOften x_o_bodies a_o_kind x_o_traces a_o_traced a_o_holds a_o_size a_o_elements a_o_shifted, A_Z dA a_o_keptHad 1024 x_o_keptHad, A_Z dA a_o_had 1024 x_o_had, A_Z dA a_o_keptTold 1024 x_o_keptTold, A_Z dA a_o_told 1024 x_o_told, A_I dA a_o_keptLast 10 x_o_keptLast, A_I dA a_o_last 10 x_o_last, A_I dA a_o_keptOften 10 x_o_keptOften, A_I dA a_o_often 10 x_o_often]) C kf_Mo 2 mw_4_140 d_Mo_back_23 rfl 0 rfl (by decide) rfl rfl rfl (Nat.le_of_ble_eq_true rfl) rfl ?_
    refine g_aload_n (pc' := 27) C 0 d_Mo_back_26 rfl rfl ?_
    refine g_aload_n (pc' := 28) C 0 d_Mo_back_27 rfl rfl ?_
    refine g_get (pc' := 31) C kf_Mo 44 mw_4_182 d_Mo_back_28 rfl 0 rfl (by decide) rfl ?_
    refine g_put (pc' := 34) (ws' := [O_Mo a_o x_o_code x_o_keptLamps x_o_keptAt x_o_keptNight x_o_spent x_o_rest x_o_shy a_o_had a_o_told a_o_barred a_o_cost a_o_last a_o_often x_o_hasBegun x_o_doneMany x_o_undoneMany a_o_changeOf a_o_changeAt a_o_before a_o_behind a_o_tape x_o_taped x_o_here x_o_fault x_o_open x_o_laid a_o_act a_o_with a_o_lineMany a_o_testEnd a_o_lineEnd a_o_facts a_o_pile x_o_hasLaw a_o_way a_o_bestWay x_o_bestMany a_o_wasHad a_o_wasLast x_o_wasAt x_o_wasNight x_o_hasImage x_o_keptLamps x_o_keptAt x_o_keptNight x_o_keptSpent a_o_keptHad a_o_keptTold a_o_keptLast a_o_keptOften x_o_bodies a_o_kind x_o_traces a_o_traced a_o_holds a_o_size a_o_elements a_o_shifted, A_Z dA a_o_keptHad 1024 x_o_keptHad, A_Z dA a_o_had 1024 x_o_had, A_Z dA a_o_keptTold 1024 x_o_keptTold, A_Z dA a_o_told 1024 x_o_told, A_I dA a_o_keptLast 10 x_o_keptLast, A_I dA a_o_last 10 x_o_last, A_I dA a_o_keptOften 10 x_o_keptOften, A_I dA a_o_often 10 x_o_often]) C kf_Mo 3 mw_4_141 d_Mo_back_31 rfl 0 rfl (by decide) rfl rfl rfl (Nat.le_of_ble_eq_true rfl) rfl ?_
    refine g_aload_n (pc' := 35) C 0 d_Mo_back_34 rfl rfl ?_
    refine g_aload_n (pc' := 36) C 0 d_Mo_back_35 rfl rfl ?_
    refine g_get (pc' := 39) C kf_Mo 45 mw_4_183 d_Mo_back_36 rfl 0 rfl (by decide) rfl ?_
    refine g_put (pc' := 42) (ws' := [O_Mo a_o x_o_code x_o_keptLamps x_o_keptAt x_o_keptNight x_o_keptSpent x_o_rest x_o_shy a_o_had a_o_told a_o_barred a_o_cost a_o_last a_o_often x_o_hasBegun x_o_doneMany x_o_undoneMany a_o_changeOf a_o_changeAt a_o_before a_o_behind a_o_tape x_o_taped x_o_here x_o_fault x_o_open x_o_laid a_o_act a_o_with a_o_lineMany a_o_testEnd a_o_lineEnd a_o_facts a_o_pile x_o_hasLaw a_o_way a_o_bestWay x_o_bestMany a_o_wasHad a_o_wasLast x_o_wasAt x_o_wasNight x_o_hasImage x_o_keptLamps x_o_keptAt x_o_keptNight x_o_keptSpent a_o_keptHad a_o_keptTold a_o_keptLast a_o_keptOften x_o_bodies a_o_kind x_o_traces a_o_traced a_o_holds a_o_size a_o_elements a_o_shifted, A_Z dA a_o_keptHad 1024 x_o_keptHad, A_Z dA a_o_had 1024 x_o_had, A_Z dA a_o_keptTold 1024 x_o_keptTold, A_Z dA a_o_told 1024 x_o_told, A_I dA a_o_keptLast 10 x_o_keptLast, A_I dA a_o_last 10 x_o_last, A_I dA a_o_keptOften 10 x_o_keptOften, A_I dA a_o_often 10 x_o_often]) C kf_Mo 4 mw_4_142 d_Mo_back_39 rfl 0 rfl (by decide) rfl rfl rfl (Nat.le_of_ble_eq_true rfl) rfl ?_
    refine g_iconst (pc' := 43) (v := 0) C d_Mo_back_42 rfl rfl ?_
    refine g_istore_n (pc' := 44) (lv' := [(1, .int 0), (0, .ref a_o)]) C d_Mo_back_43 rfl (by decide) rfl ?_
    refine g_lv (lv' := [(0, .ref a_o), (1, .int (0 : Int32))]) [1, 0] rfl ?_
    exact w_Mo_back_L44 (a_o := a_o) (a_o_had := a_o_had) (a_o_told := a_o_told) (a_o_barred := a_o_barred) (a_o_cost := a_o_cost) (a_o_last := a_o_last) (a_o_often := a_o_often) (a_o_changeOf := a_o_changeOf) (a_o_changeAt := a_o_changeAt) (a_o_before := a_o_before) (a_o_behind := a_o_behind) (a_o_tape := a_o_tape) (a_o_act := a_o_act) (a_o_with := a_o_with) (a_o_lineMany := a_o_lineMany) (a_o_testEnd := a_o_testEnd) (a_o_lineEnd := a_o_lineEnd) (a_o_facts := a_o_facts) (a_o_pile := a_o_pile) (a_o_way := a_o_way) (a_o_bestWay := a_o_bestWay) (a_o_wasHad := a_o_wasHad) (a_o_wasLast := a_o_wasLast) (a_o_keptHad := a_o_keptHad) (a_o_keptTold := a_o_keptTold) (a_o_keptLast := a_o_keptLast) (a_o_keptOften := a_o_keptOften) (a_o_kind := a_o_kind) (a_o_traced := a_o_traced) (a_o_holds := a_o_holds) (a_o_size := a_o_size) (a_o_elements := a_o_elements) (a_o_shifted := a_o_shifted) C   3000 (0 : Int32) x_o_keptLamps x_o_keptAt x_o_keptNight x_o_keptSpent x_o_keptHad x_o_had x_o_keptTold x_o_told x_o_keptLast x_o_last x_o_keptOften x_o_often hf
  · replace hf := g_bf h hf
    refine g_bipush (pc' := 9) (v := (-5)) C d_Mo_back_7 rfl rfl ?_
    replace hf := g_o2 hf; obtain ⟨h1, hf⟩ := hf; subst h1
    replace hf := g_o2 hf; obtain ⟨h1, hf⟩ := hf; subst h1
    replace hf := g_o2 hf; obtain ⟨h1, hf⟩ := hf; subst h1
    replace hf := g_o2 hf; obtain ⟨h1, hf⟩ := hf; subst h1
    replace hf := g_o2 hf; obtain ⟨h1, hf⟩ := hf; subst h1
    replace hf := g_o2 hf; obtain ⟨h1, hf⟩ := hf; subst h1
    replace hf := g_o2 hf; obtain ⟨h1, hf⟩ := hf; subst h1
    replace hf := g_o2 hf; obtain ⟨h1, hf⟩ := hf; subst h1
    replace hf := Option.some.inj hf; subst hf
    exact g_iret C d_Mo_back_9 () rfl
def y_Mo_isBody : MethodName := ⟨"OneLampModel", "isBody", "(I)Z"⟩
theorem yy_Mo_isBody : YV y_Mo_isBody prog_13_method_75_code 2 (some .boolean) 1 := ⟨mw_6_138, mw_1_12, mw_6_137, tm_s (y := y_Mo_isBody) (n := 58) (by decide +kernel), by decide +kernel, by decide +kernel, by decide +kernel⟩
theorem d_Mo_isBody_0 : decode prog_13_method_75_code 0 = .ok (.iload_n 1, 1) := by decide +kernel
theorem d_Mo_isBody_1 : decode prog_13_method_75_code 1 = .ok (.iconst 0, 1) := by decide +kernel
theorem d_Mo_isBody_2 : decode prog_13_method_75_code 2 = .ok (.aload_n 0, 1) := by decide +kernel
theorem d_Mo_isBody_3 : decode prog_13_method_75_code 3 = .ok (.getfield 348, 3) := by decide +kernel
theorem d_Mo_isBody_6 : decode prog_13_method_75_code 6 = .ok (.iconst 1, 1) := by decide +kernel
theorem d_Mo_isBody_7 : decode prog_13_method_75_code 7 = .ok (.isub, 1) := by decide +kernel
theorem d_Mo_isBody_8 : decode prog_13_method_75_code 8 = .ok (.invokestatic 121, 3) := by decide +kernel
theorem d_Mo_isBody_11 : decode prog_13_method_75_code 11 = .ok (.ireturn, 1) := by decide +kernel
def f_Mo_isBody  (p1 : Int32) (x_o_bodies : Int32) : Option (Bool) :=
  (f_Mo_in  p1 (0 : Int32) (x_o_bodies - (1 : Int32))).bind fun r1 =>
  some (r1)
set_option maxRecDepth 20000 in
theorem c_Mo_isBody {l : Launch} {D : va_G} {dA : Nat → ClassId} {a_o a_o_had a_o_told a_o_barred a_o_cost a_o_last a_o_often a_o_changeOf a_o_changeAt a_o_before a_o_behind a_o_tape a_o_act a_o_with a_o_lineMany a_o_testEnd a_o_lineEnd a_o_facts a_o_pile a_o_way a_o_bestWay a_o_wasHad a_o_wasLast a_o_keptHad a_o_keptTold a_o_keptLast a_o_keptOften a_o_kind a_o_traced a_o_holds a_o_size a_o_elements a_o_shifted : Nat} {x_o_code : Int32} {x_o_lamps : Int32} {x_o_at : Int32} {x_o_night : Int32} {x_o_spent : Int32} {x_o_rest : Int32} {x_o_shy : Int32} {x_o_hasBegun : Bool} {x_o_doneMany : Int32} {x_o_undoneMany : Int32} {x_o_taped : Int32} {x_o_here : Int32} {x_o_fault : Int32} {x_o_open : Int32} {x_o_laid : Int32} {x_o_hasLaw : Bool} {x_o_bestMany : Int32} {x_o_wasAt : Int32} {x_o_wasNight : Int32} {x_o_hasImage : Bool} {x_o_keptLamps : Int32} {x_o_keptAt : Int32} {x_o_keptNight : Int32} {x_o_keptSpent : Int32} {x_o_traces : Int32} {p1 : Int32} {x_o_bodies : Int32} {r0 : Bool}   (hf : f_Mo_isBody  p1 x_o_bodies = some r0) : CT l y_Mo_isBody prog_13_method_75_code 2 (some .boolean) { frames := 1, cells := 0, slots := 0, locals := 22 } D dA [.ref a_o, .int p1] [O_Mo a_o x_o_code x_o_lamps x_o_at x_o_night x_o_spent x_o_rest x_o_shy a_o_had a_o_told a_o_barred a_o_cost a_o_last a_o_often x_o_hasBegun x_o_doneMany x_o_undoneMany a_o_changeOf a_o_changeAt a_o_before a_o_behind a_o_tape x_o_taped x_o_here x_o_fault x_o_open x_o_laid a_o_act a_o_with a_o_lineMany a_o_testEnd a_o_lineEnd a_o_facts a_o_pile x_o_hasLaw a_o_way a_o_bestWay x_o_bestMany a_o_wasHad a_o_wasLast x_o_wasAt x_o_wasNight x_o_hasImage x_o_keptLamps x_o_keptAt x_o_keptNight x_o_keptSpent a_o_keptHad a_o_keptTold a_o_keptLast a_o_keptOften x_o_bodies a_o_kind x_o_traces a_o_traced a_o_holds a_o_size a_o_elements a_o_shifted] (some (.int (b2i r0))) (fun _ : Unit => [O_Mo a_o x_o_code x_o_lamps x_o_at x_o_night x_o_spent x_o_rest x_o_shy a_o_had a_o_told a_o_barred a_o_cost a_o_last a_o_often x_o_hasBegun x_o_doneMany x_o_undoneMany a_o_changeOf a_o_changeAt a_o_before a_o_behind a_o_tape x_o_taped x_o_here x_o_fault x_o_open x_o_laid a_o_act a_o_with a_o_lineMany a_o_testEnd a_o_lineEnd a_o_facts a_o_pile x_o_hasLaw a_o_way a_o_bestWay x_o_bestMany a_o_wasHad a_o_wasLast x_o_wasAt x_o_wasNight x_o_hasImage x_o_keptLamps x_o_keptAt x_o_keptNight x_o_keptSpent a_o_keptHad a_o_keptTold a_o_keptLast a_o_keptOften x_o_bodies a_o_kind x_o_traces a_o_traced a_o_holds a_o_size a_o_elements a_o_shifted]) := by
  refine ct_intro "OneLampModel" rfl (by decide +kernel) (Nat.le_of_ble_eq_true rfl) [(0, .ref a_o), (1, .int p1)] rfl (fun _ C => ?_)
  unfold f_Mo_isBody at hf
  refine g_iload_n (pc' := 1) C 1 d_Mo_isBody_0 rfl rfl ?_
  refine g_iconst (pc' := 2) (v := 0) C d_Mo_isBody_1 rfl rfl ?_
  refine g_aload_n (pc' := 3) C 0 d_Mo_isBody_2 rfl rfl ?_
  refine g_get (pc' := 6) C kf_Mo 50 mw_4_188 d_Mo_isBody_3 rfl 0 rfl (by decide) rfl ?_
  refine g_iconst (pc' := 7) (v := 1) C d_Mo_isBody_6 rfl rfl ?_
  refine g_isub (pc' := 8) C d_Mo_isBody_7 rfl ?_
  replace hf := g_bi hf; obtain ⟨r1, hc2, hf⟩ := hf
  refine g_callS (pc' := 11) (st1 := [.int (b2i r1)]) (ws1 := [O_Mo a_o x_o_code x_o_lamps x_o_at x_o_night x_o_spent x_o_rest x_o_shy a_o_had a_o_told a_o_barred a_o_cost a_o_last a_o_often x_o_hasBegun x_o_doneMany x_o_undoneMany a_o_changeOf a_o_changeAt a_o_before a_o_behind a_o_tape x_o_taped x_o_here x_o_fault x_o_open x_o_laid a_o_act a_o_with a_o_lineMany a_o_testEnd a_o_lineEnd a_o_facts a_o_pile x_o_hasLaw a_o_way a_o_bestWay x_o_bestMany a_o_wasHad a_o_wasLast x_o_wasAt x_o_wasNight x_o_hasImage x_o_keptLamps x_o_keptAt x_o_keptNight x_o_keptSpent a_o_keptHad a_o_keptTold a_o_keptLast a_o_keptOften x_o_bodies a_o_kind x_o_traces a_o_traced a_o_holds a_o_size a_o_elements a_o_shifted]) C (c_Mo_in (l := l) (D := D) (dA := dA)    hc2) yy_Mo_in mw_5_80 d_Mo_isBody_8 rfl [] rfl rfl (Nat.le_of_ble_eq_true rfl) ⟨Nat.le_of_ble_eq_true rfl, Nat.le_of_ble_eq_true rfl⟩ rfl rfl (Nat.zero_le _) (Nat.zero_le _) [] rfl (by decide +kernel) rfl (g_lay_sel _ _ _ _ [(0, false)] (by decide +kernel) rfl (by decide +kernel) rfl rfl) rfl ?_
  replace hf := Option.some.inj hf; subst hf
  exact g_zret C d_Mo_isBody_11 () rfl
def y_Mo_ran : MethodName := ⟨"OneLampModel", "ran", "(I)V"⟩
theorem yy_Mo_ran : YV y_Mo_ran prog_13_method_76_code 2 none 1 := ⟨mw_6_149, mw_1_12, mw_6_148, tm_s (y := y_Mo_ran) (n := 58) (by decide +kernel), by decide +kernel, by decide +kernel, by decide +kernel⟩
theorem d_Mo_ran_0 : decode prog_13_method_76_code 0 = .ok (.aload_n 0, 1) := by decide +kernel
theorem d_Mo_ran_1 : decode prog_13_method_76_code 1 = .ok (.getfield 351, 3) := by decide +kernel
theorem d_Mo_ran_4 : decode prog_13_method_76_code 4 = .ok (.bipush 24, 2) := by decide +kernel
theorem d_Mo_ran_6 : decode prog_13_method_76_code 6 = .ok (.if_icmp .ge 13, 3) := by decide +kernel
theorem d_Mo_ran_9 : decode prog_13_method_76_code 9 = .ok (.aload_n 0, 1) := by decide +kernel
theorem d_Mo_ran_10 : decode prog_13_method_76_code 10 = .ok (.getfield 98, 3) := by decide +kernel
theorem d_Mo_ran_13 : decode prog_13_method_76_code 13 = .ok (.aload_n 0, 1) := by decide +kernel
theorem d_Mo_ran_14 : decode prog_13_method_76_code 14 = .ok (.getfield 351, 3) := by decide +kernel
theorem d_Mo_ran_17 : decode prog_13_method_76_code 17 = .ok (.iload_n 1, 1) := by decide +kernel
theorem d_Mo_ran_18 : decode prog_13_method_76_code 18 = .ok (.iastore, 1) := by decide +kernel
theorem d_Mo_ran_19 : decode prog_13_method_76_code 19 = .ok (.aload_n 0, 1) := by decide +kernel
theorem d_Mo_ran_20 : decode prog_13_method_76_code 20 = .ok (.dup, 1) := by decide +kernel
theorem d_Mo_ran_21 : decode prog_13_method_76_code 21 = .ok (.getfield 351, 3) := by decide +kernel
theorem d_Mo_ran_24 : decode prog_13_method_76_code 24 = .ok (.iconst 1, 1) := by decide +kernel
theorem d_Mo_ran_25 : decode prog_13_method_76_code 25 = .ok (.iadd, 1) := by decide +kernel
theorem d_Mo_ran_26 : decode prog_13_method_76_code 26 = .ok (.putfield 351, 3) := by decide +kernel
theorem d_Mo_ran_29 : decode prog_13_method_76_code 29 = .ok (.return_, 1) := by decide +kernel
def f_Mo_ran  (p1 : Int32) (x_o_traces : Int32) (x_o_traced : Nat → Int32) : Option (Int32 × (Nat → Int32)) :=
  if (24 : Int32) ≤ x_o_traces then
    (some ((x_o_traces + (1 : Int32)), x_o_traced))
  else
    (if x_o_traces < 0 ∨ 24 ≤ Int32.toNatClampNeg x_o_traces then none else
    some ((x_o_traces + (1 : Int32)), (upd x_o_traced (Int32.toNatClampNeg x_o_traces) p1)))
set_option maxRecDepth 20000 in
theorem c_Mo_ran {l : Launch} {D : va_G} {dA : Nat → ClassId} {a_o a_o_had a_o_told a_o_barred a_o_cost a_o_last a_o_often a_o_changeOf a_o_changeAt a_o_before a_o_behind a_o_tape a_o_act a_o_with a_o_lineMany a_o_testEnd a_o_lineEnd a_o_facts a_o_pile a_o_way a_o_bestWay a_o_wasHad a_o_wasLast a_o_keptHad a_o_keptTold a_o_keptLast a_o_keptOften a_o_kind a_o_traced a_o_holds a_o_size a_o_elements a_o_shifted : Nat} {x_o_code : Int32} {x_o_lamps : Int32} {x_o_at : Int32} {x_o_night : Int32} {x_o_spent : Int32} {x_o_rest : Int32} {x_o_shy : Int32} {x_o_hasBegun : Bool} {x_o_doneMany : Int32} {x_o_undoneMany : Int32} {x_o_taped : Int32} {x_o_here : Int32} {x_o_fault : Int32} {x_o_open : Int32} {x_o_laid : Int32} {x_o_hasLaw : Bool} {x_o_bestMany : Int32} {x_o_wasAt : Int32} {x_o_wasNight : Int32} {x_o_hasImage : Bool} {x_o_keptLamps : Int32} {x_o_keptAt : Int32} {x_o_keptNight : Int32} {x_o_keptSpent : Int32} {x_o_bodies : Int32} {p1 : Int32} {x_o_traces : Int32} {x_o_traced : Nat → Int32} {o_x_o_traces : Int32} {o_x_o_traced : Nat → Int32}   (hf : f_Mo_ran  p1 x_o_traces x_o_traced = some (o_x_o_traces, o_x_o_traced)) : CT l y_Mo_ran prog_13_method_76_code 2 none { frames := 0, cells := 0, slots := 0, locals := 0 } D dA [.ref a_o, .int p1] [O_Mo a_o x_o_code x_o_lamps x_o_at x_o_night x_o_spent x_o_rest x_o_shy a_o_had a_o_told a_o_barred a_o_cost a_o_last a_o_often x_o_hasBegun x_o_doneMany x_o_undoneMany a_o_changeOf a_o_changeAt a_o_before a_o_behind a_o_tape x_o_taped x_o_here x_o_fault x_o_open x_o_laid a_o_act a_o_with a_o_lineMany a_o_testEnd a_o_lineEnd a_o_facts a_o_pile x_o_hasLaw a_o_way a_o_bestWay x_o_bestMany a_o_wasHad a_o_wasLast x_o_wasAt x_o_wasNight x_o_hasImage x_o_keptLamps x_o_keptAt x_o_keptNight x_o_keptSpent a_o_keptHad a_o_keptTold a_o_keptLast a_o_keptOften x_o_bodies a_o_kind x_o_traces a_o_traced a_o_holds a_o_size a_o_elements a_o_shifted, A_I dA a_o_traced 24 x_o_traced] none (fun _ : Unit => [O_Mo a_o x_o_code x_o_lamps x_o_at x_o_night x_o_spent x_o_rest x_o_shy a_o_had a_o_told a_o_barred a_o_cost a_o_last a_o_often x_o_hasBegun x_o_doneMany x_o_undoneMany a_o_changeOf a_o_changeAt a_o_before a_o_behind a_o_tape x_o_taped x_o_here x_o_fault x_o_open x_o_laid a_o_act a_o_with a_o_lineMany a_o_testEnd a_o_lineEnd a_o_facts a_o_pile x_o_hasLaw a_o_way a_o_bestWay x_o_bestMany a_o_wasHad a_o_wasLast x_o_wasAt x_o_wasNight x_o_hasImage x_o_keptLamps x_o_keptAt x_o_keptNight x_o_keptSpent a_o_keptHad a_o_keptTold a_o_keptLast a_o_keptOften x_o_bodies a_o_kind o_x_o_traces a_o_traced a_o_holds a_o_size a_o_elements a_o_shifted, A_I dA a_o_traced 24 o_x_o_traced]) := by
  refine ct_intro "OneLampModel" rfl (by decide +kernel) (Nat.le_of_ble_eq_true rfl) [(0, .ref a_o), (1, .int p1)] rfl (fun _ C => ?_)
  unfold f_Mo_ran at hf
  refine g_aload_n (pc' := 1) C 0 d_Mo_ran_0 rfl rfl ?_
  refine g_get (pc' := 4) C kf_Mo 52 mw_4_190 d_Mo_ran_1 rfl 0 rfl (by decide) rfl ?_
  refine g_bipush (pc' := 6) (v := 24) C d_Mo_ran_4 rfl rfl ?_
  refine g_icmp_ge (pc' := 9) (tgt := 19) C d_Mo_ran_6 rfl rfl (fun h => ?_) (fun h => ?_)
  · replace hf := g_ip h hf
    refine g_aload_n (pc' := 20) C 0 d_Mo_ran_19 rfl rfl ?_
    refine g_dup (pc' := 21) C d_Mo_ran_20 rfl rfl ?_
    refine g_get (pc' := 24) C kf_Mo 52 mw_4_190 d_Mo_ran_21 rfl 0 rfl (by decide) rfl ?_
    refine g_iconst (pc' := 25) (v := 1) C d_Mo_ran_24 rfl rfl ?_
    refine g_iadd (pc' := 26) C d_Mo_ran_25 rfl ?_
    refine g_put (pc' := 29) (ws' := [O_Mo a_o x_o_code x_o_lamps x_o_at x_o_night x_o_spent x_o_rest x_o_shy a_o_had a_o_told a_o_barred a_o_cost a_o_last a_o_often x_o_hasBegun x_o_doneMany x_o_undoneMany a_o_changeOf a_o_changeAt a_o_before a_o_behind a_o_tape x_o_taped x_o_here x_o_fault x_o_open x_o_laid a_o_act a_o_with a_o_lineMany a_o_testEnd a_o_lineEnd a_o_facts a_o_pile x_o_hasLaw a_o_way a_o_bestWay x_o_bestMany a_o_wasHad a_o_wasLast x_o_wasAt x_o_wasNight x_o_hasImage x_o_keptLamps x_o_keptAt x_o_keptNight x_o_keptSpent a_o_keptHad a_o_keptTold a_o_keptLast a_o_keptOften x_o_bodies a_o_kind (x_o_traces + (1 : Int32)) a_o_traced a_o_holds a_o_size a_o_elements a_o_shifted, A_I dA a_o_traced 24 x_o_traced]) C kf_Mo 52 mw_4_190 d_Mo_ran_26 rfl 0 rfl (by decide) rfl rfl rfl (Nat.le_of_ble_eq_true rfl) rfl ?_
    replace hf := g_o2 hf; obtain ⟨h1, hf⟩ := hf; subst h1
    replace hf := Option.some.inj hf; subst hf
    exact g_vret C d_Mo_ran_29 () rfl
  · replace hf := g_in h hf
    refine g_aload_n (pc' := 10) C 0 d_Mo_ran_9 rfl rfl ?_
    refine g_get (pc' := 13) C kf_Mo 53 mw_4_191 d_Mo_ran_10 rfl 0 rfl (by decide) rfl ?_
    refine g_aload_n (pc' := 14) C 0 d_Mo_ran_13 rfl rfl ?_
    refine g_get (pc' := 17) C kf_Mo 52 mw_4_190 d_Mo_ran_14 rfl 0 rfl (by decide) rfl ?_
    refine g_iload_n (pc' := 18) C 1 d_Mo_ran_17 rfl rfl ?_
    have hb := g_ck hf
    replace hf := g_in hb hf
    refine g_iast (pc' := 19) (ws' := [O_Mo a_o x_o_code x_o_lamps x_o_at x_o_night x_o_spent x_o_rest x_o_shy a_o_had a_o_told a_o_barred a_o_cost a_o_last a_o_often x_o_hasBegun x_o_doneMany x_o_undoneMany a_o_changeOf a_o_changeAt a_o_before a_o_behind a_o_tape x_o_taped x_o_here x_o_fault x_o_open x_o_laid a_o_act a_o_with a_o_lineMany a_o_testEnd a_o_lineEnd a_o_facts a_o_pile x_o_hasLaw a_o_way a_o_bestWay x_o_bestMany a_o_wasHad a_o_wasLast x_o_wasAt x_o_wasNight x_o_hasImage x_o_keptLamps x_o_keptAt x_o_keptNight x_o_keptSpent a_o_keptHad a_o_keptTold a_o_keptLast a_o_keptOften x_o_bodies a_o_kind x_o_traces a_o_traced a_o_holds a_o_size a_o_elements a_o_shifted, A_I dA a_o_traced 24 (upd x_o_traced (Int32.toNatClampNeg x_o_traces) p1)]) C d_Mo_ran_18 rfl 1 rfl hb rfl ?_
    refine g_aload_n (pc' := 20) C 0 d_Mo_ran_19 rfl rfl ?_
    refine g_dup (pc' := 21) C d_Mo_ran_20 rfl rfl ?_
    refine g_get (pc' := 24) C kf_Mo 52 mw_4_190 d_Mo_ran_21 rfl 0 rfl (by decide) rfl ?_
    refine g_iconst (pc' := 25) (v := 1) C d_Mo_ran_24 rfl rfl ?_
    refine g_iadd (pc' := 26) C d_Mo_ran_25 rfl ?_
    refine g_put (pc' := 29) (ws' := [O_Mo a_o x_o_code x_o_lamps x_o_at x_o_night x_o_spent x_o_rest x_o_shy a_o_had a_o_told a_o_barred a_o_cost a_o_last a_o_often x_o_hasBegun x_o_doneMany x_o_undoneMany a_o_changeOf a_o_changeAt a_o_before a_o_behind a_o_tape x_o_taped x_o_here x_o_fault x_o_open x_o_laid a_o_act a_o_with a_o_lineMany a_o_testEnd a_o_lineEnd a_o_facts a_o_pile x_o_hasLaw a_o_way a_o_bestWay x_o_bestMany a_o_wasHad a_o_wasLast x_o_wasAt x_o_wasNight x_o_hasImage x_o_keptLamps x_o_keptAt x_o_keptNight x_o_keptSpent a_o_keptHad a_o_keptTold a_o_keptLast a_o_keptOften x_o_bodies a_o_kind (x_o_traces + (1 : Int32)) a_o_traced a_o_holds a_o_size a_o_elements a_o_shifted, A_I dA a_o_traced 24 (upd x_o_traced (Int32.toNatClampNeg x_o_traces) p1)]) C kf_Mo 52 mw_4_190 d_Mo_ran_26 rfl 0 rfl (by decide) rfl rfl rfl (Nat.le_of_ble_eq_true rfl) rfl ?_
    replace hf := g_o2 hf; obtain ⟨h1, hf⟩ := hf; subst h1
    replace hf := Option.some.inj hf; subst hf
    exact g_vret C d_Mo_ran_29 () rfl
def y_Mo_trace : MethodName := ⟨"OneLampModel", "trace", "(I)I"⟩
theorem yy_Mo_trace : YV y_Mo_trace prog_13_method_77_code 2 (some .int) 1 := ⟨mw_6_126, mw_1_12, mw_6_124, mw_6_125, by decide +kernel, by decide +kernel, by decide +kernel⟩
theorem d_Mo_trace_0 : decode prog_13_method_77_code 0 = .ok (.iload_n 1, 1) := by decide +kernel
theorem d_Mo_trace_1 : decode prog_13_method_77_code 1 = .ok (.ifCond .lt 26, 3) := by decide +kernel
theorem d_Mo_trace_4 : decode prog_13_method_77_code 4 = .ok (.iload_n 1, 1) := by decide +kernel
theorem d_Mo_trace_5 : decode prog_13_method_77_code 5 = .ok (.aload_n 0, 1) := by decide +kernel
theorem d_Mo_trace_6 : decode prog_13_method_77_code 6 = .ok (.getfield 351, 3) := by decide +kernel
theorem d_Mo_trace_9 : decode prog_13_method_77_code 9 = .ok (.if_icmp .ge 18, 3) := by decide +kernel
theorem d_Mo_trace_12 : decode prog_13_method_77_code 12 = .ok (.iload_n 1, 1) := by decide +kernel
theorem d_Mo_trace_13 : decode prog_13_method_77_code 13 = .ok (.bipush 24, 2) := by decide +kernel
theorem d_Mo_trace_15 : decode prog_13_method_77_code 15 = .ok (.if_icmp .ge 12, 3) := by decide +kernel
theorem d_Mo_trace_18 : decode prog_13_method_77_code 18 = .ok (.aload_n 0, 1) := by decide +kernel
theorem d_Mo_trace_19 : decode prog_13_method_77_code 19 = .ok (.getfield 98, 3) := by decide +kernel
theorem d_Mo_trace_22 : decode prog_13_method_77_code 22 = .ok (.iload_n 1, 1) := by decide +kernel
theorem d_Mo_trace_23 : decode prog_13_method_77_code 23 = .ok (.iaload, 1) := by decide +kernel
theorem d_Mo_trace_24 : decode prog_13_method_77_code 24 = .ok (.goto 4, 3) := by decide +kernel
theorem d_Mo_trace_27 : decode prog_13_method_77_code 27 = .ok (.iconst (-1), 1) := by decide +kernel
theorem d_Mo_trace_28 : decode prog_13_method_77_code 28 = .ok (.ireturn, 1) := by decide +kernel
def f_Mo_trace  (p1 : Int32) (x_o_traces : Int32) (x_o_traced : Nat → Int32) : Option (Int32) :=
  if p1 < 0 then
    (some ((-1 : Int32)))
  else
    (if x_o_traces ≤ p1 then
      (some ((-1 : Int32)))
    else
      (if (24 : Int32) ≤ p1 then
        (some ((-1 : Int32)))
      else
        (if p1 < 0 ∨ 24 ≤ Int32.toNatClampNeg p1 then none else
        some ((x_o_traced (Int32.toNatClampNeg p1))))))
set_option maxRecDepth 20000 in
theorem c_Mo_trace {l : Launch} {D : va_G} {dA : Nat → ClassId} {a_o a_o_had a_o_told a_o_barred a_o_cost a_o_last a_o_often a_o_changeOf a_o_changeAt a_o_before a_o_behind a_o_tape a_o_act a_o_with a_o_lineMany a_o_testEnd a_o_lineEnd a_o_facts a_o_pile a_o_way a_o_bestWay a_o_wasHad a_o_wasLast a_o_keptHad a_o_keptTold a_o_keptLast a_o_keptOften a_o_kind a_o_traced a_o_holds a_o_size a_o_elements a_o_shifted : Nat} {x_o_code : Int32} {x_o_lamps : Int32} {x_o_at : Int32} {x_o_night : Int32} {x_o_spent : Int32} {x_o_rest : Int32} {x_o_shy : Int32} {x_o_hasBegun : Bool} {x_o_doneMany : Int32} {x_o_undoneMany : Int32} {x_o_taped : Int32} {x_o_here : Int32} {x_o_fault : Int32} {x_o_open : Int32} {x_o_laid : Int32} {x_o_hasLaw : Bool} {x_o_bestMany : Int32} {x_o_wasAt : Int32} {x_o_wasNight : Int32} {x_o_hasImage : Bool} {x_o_keptLamps : Int32} {x_o_keptAt : Int32} {x_o_keptNight : Int32} {x_o_keptSpent : Int32} {x_o_bodies : Int32} {p1 : Int32} {x_o_traces : Int32} {x_o_traced : Nat → Int32} {r0 : Int32}   (hf : f_Mo_trace  p1 x_o_traces x_o_traced = some r0) : CT l y_Mo_trace prog_13_method_77_code 2 (some .int) { frames := 0, cells := 0, slots := 0, locals := 0 } D dA [.ref a_o, .int p1] [O_Mo a_o x_o_code x_o_lamps x_o_at x_o_night x_o_spent x_o_rest x_o_shy a_o_had a_o_told a_o_barred a_o_cost a_o_last a_o_often x_o_hasBegun x_o_doneMany x_o_undoneMany a_o_changeOf a_o_changeAt a_o_before a_o_behind a_o_tape x_o_taped x_o_here x_o_fault x_o_open x_o_laid a_o_act a_o_with a_o_lineMany a_o_testEnd a_o_lineEnd a_o_facts a_o_pile x_o_hasLaw a_o_way a_o_bestWay x_o_bestMany a_o_wasHad a_o_wasLast x_o_wasAt x_o_wasNight x_o_hasImage x_o_keptLamps x_o_keptAt x_o_keptNight x_o_keptSpent a_o_keptHad a_o_keptTold a_o_keptLast a_o_keptOften x_o_bodies a_o_kind x_o_traces a_o_traced a_o_holds a_o_size a_o_elements a_o_shifted, A_I dA a_o_traced 24 x_o_traced] (some (.int r0)) (fun _ : Unit => [O_Mo a_o x_o_code x_o_lamps x_o_at x_o_night x_o_spent x_o_rest x_o_shy a_o_had a_o_told a_o_barred a_o_cost a_o_last a_o_often x_o_hasBegun x_o_doneMany x_o_undoneMany a_o_changeOf a_o_changeAt a_o_before a_o_behind a_o_tape x_o_taped x_o_here x_o_fault x_o_open x_o_laid a_o_act a_o_with a_o_lineMany a_o_testEnd a_o_lineEnd a_o_facts a_o_pile x_o_hasLaw a_o_way a_o_bestWay x_o_bestMany a_o_wasHad a_o_wasLast x_o_wasAt x_o_wasNight x_o_hasImage x_o_keptLamps x_o_keptAt x_o_keptNight x_o_keptSpent a_o_keptHad a_o_keptTold a_o_keptLast a_o_keptOften x_o_bodies a_o_kind x_o_traces a_o_traced a_o_holds a_o_size a_o_elements a_o_shifted, A_I dA a_o_traced 24 x_o_traced]) := by
  refine ct_intro "OneLampModel" rfl (by decide +kernel) (Nat.le_of_ble_eq_true rfl) [(0, .ref a_o), (1, .int p1)] rfl (fun _ C => ?_)
  unfold f_Mo_trace at hf
  refine g_iload_n (pc' := 1) C 1 d_Mo_trace_0 rfl rfl ?_
  refine g_if_lt (pc' := 4) (tgt := 27) C d_Mo_trace_1 rfl rfl (fun h => ?_) (fun h => ?_)
  · replace hf := g_ip h hf
    refine g_iconst (pc' := 28) (v := (-1)) C d_Mo_trace_27 rfl rfl ?_
    replace hf := Option.some.inj hf; subst hf
    exact g_iret C d_Mo_trace_28 () rfl
  · replace hf := g_in h hf
    refine g_iload_n (pc' := 5) C 1 d_Mo_trace_4 rfl rfl ?_
    refine g_aload_n (pc' := 6) C 0 d_Mo_trace_5 rfl rfl ?_
    refine g_get (pc' := 9) C kf_Mo 52 mw_4_190 d_Mo_trace_6 rfl 0 rfl (by decide) rfl ?_
    refine g_icmp_ge (pc' := 12) (tgt := 27) C d_Mo_trace_9 rfl rfl (fun h => ?_) (fun h => ?_)
    · replace hf := g_ip h hf
      refine g_iconst (pc' := 28) (v := (-1)) C d_Mo_trace_27 rfl rfl ?_
      replace hf := Option.some.inj hf; subst hf
      exact g_iret C d_Mo_trace_28 () rfl
    · replace hf := g_in h hf
      refine g_iload_n (pc' := 13) C 1 d_Mo_trace_12 rfl rfl ?_
      refine g_bipush (pc' := 15) (v := 24) C d_Mo_trace_13 rfl rfl ?_
      refine g_icmp_ge (pc' := 18) (tgt := 27) C d_Mo_trace_15 rfl rfl (fun h => ?_) (fun h => ?_)
      · replace hf := g_ip h hf
        refine g_iconst (pc' := 28) (v := (-1)) C d_Mo_trace_27 rfl rfl ?_
        replace hf := Option.some.inj hf; subst hf
        exact g_iret C d_Mo_trace_28 () rfl
      · replace hf := g_in h hf
        refine g_aload_n (pc' := 19) C 0 d_Mo_trace_18 rfl rfl ?_
        refine g_get (pc' := 22) C kf_Mo 53 mw_4_191 d_Mo_trace_19 rfl 0 rfl (by decide) rfl ?_
        refine g_iload_n (pc' := 23) C 1 d_Mo_trace_22 rfl rfl ?_
        have hb := g_ck hf
        replace hf := g_in hb hf
        refine g_iald (pc' := 24) C d_Mo_trace_23 rfl 1 rfl hb ?_
        refine g_goto (tgt := 28) C d_Mo_trace_24 rfl ?_
        replace hf := Option.some.inj hf; subst hf
        exact g_iret C d_Mo_trace_28 () rfl
def y_Mo_body : MethodName := ⟨"OneLampModel", "body", "(I)I"⟩
theorem yy_Mo_body : YV y_Mo_body prog_13_method_78_code 2 (some .int) 1 := ⟨mw_6_130, mw_1_12, mw_6_128, mw_6_129, by decide +kernel, by decide +kernel, by decide +kernel⟩
theorem d_Mo_body_0 : decode prog_13_method_78_code 0 = .ok (.iload_n 1, 1) := by decide +kernel
theorem d_Mo_body_1 : decode prog_13_method_78_code 1 = .ok (.iconst 0, 1) := by decide +kernel
theorem d_Mo_body_2 : decode prog_13_method_78_code 2 = .ok (.bipush 7, 2) := by decide +kernel
theorem d_Mo_body_4 : decode prog_13_method_78_code 4 = .ok (.invokestatic 121, 3) := by decide +kernel
theorem d_Mo_body_7 : decode prog_13_method_78_code 7 = .ok (.ifCond .ne 5, 3) := by decide +kernel
theorem d_Mo_body_10 : decode prog_13_method_78_code 10 = .ok (.iconst (-1), 1) := by decide +kernel
theorem d_Mo_body_11 : decode prog_13_method_78_code 11 = .ok (.ireturn, 1) := by decide +kernel
theorem d_Mo_body_12 : decode prog_13_method_78_code 12 = .ok (.aload_n 0, 1) := by decide +kernel
theorem d_Mo_body_13 : decode prog_13_method_78_code 13 = .ok (.getfield 348, 3) := by decide +kernel
theorem d_Mo_body_16 : decode prog_13_method_78_code 16 = .ok (.bipush 50, 2) := by decide +kernel
theorem d_Mo_body_18 : decode prog_13_method_78_code 18 = .ok (.if_icmp .ne 6, 3) := by decide +kernel
theorem d_Mo_body_21 : decode prog_13_method_78_code 21 = .ok (.bipush (-3), 2) := by decide +kernel
theorem d_Mo_body_23 : decode prog_13_method_78_code 23 = .ok (.ireturn, 1) := by decide +kernel
theorem d_Mo_body_24 : decode prog_13_method_78_code 24 = .ok (.aload_n 0, 1) := by decide +kernel
theorem d_Mo_body_25 : decode prog_13_method_78_code 25 = .ok (.getfield 95, 3) := by decide +kernel
theorem d_Mo_body_28 : decode prog_13_method_78_code 28 = .ok (.aload_n 0, 1) := by decide +kernel
theorem d_Mo_body_29 : decode prog_13_method_78_code 29 = .ok (.getfield 348, 3) := by decide +kernel
theorem d_Mo_body_32 : decode prog_13_method_78_code 32 = .ok (.iload_n 1, 1) := by decide +kernel
theorem d_Mo_body_33 : decode prog_13_method_78_code 33 = .ok (.iastore, 1) := by decide +kernel
theorem d_Mo_body_34 : decode prog_13_method_78_code 34 = .ok (.aload_n 0, 1) := by decide +kernel
theorem d_Mo_body_35 : decode prog_13_method_78_code 35 = .ok (.dup, 1) := by decide +kernel
theorem d_Mo_body_36 : decode prog_13_method_78_code 36 = .ok (.getfield 348, 3) := by decide +kernel
theorem d_Mo_body_39 : decode prog_13_method_78_code 39 = .ok (.iconst 1, 1) := by decide +kernel
theorem d_Mo_body_40 : decode prog_13_method_78_code 40 = .ok (.iadd, 1) := by decide +kernel
theorem d_Mo_body_41 : decode prog_13_method_78_code 41 = .ok (.putfield 348, 3) := by decide +kernel
theorem d_Mo_body_44 : decode prog_13_method_78_code 44 = .ok (.aload_n 0, 1) := by decide +kernel
theorem d_Mo_body_45 : decode prog_13_method_78_code 45 = .ok (.getfield 348, 3) := by decide +kernel
theorem d_Mo_body_48 : decode prog_13_method_78_code 48 = .ok (.iconst 1, 1) := by decide +kernel
theorem d_Mo_body_49 : decode prog_13_method_78_code 49 = .ok (.isub, 1) := by decide +kernel
theorem d_Mo_body_50 : decode prog_13_method_78_code 50 = .ok (.ireturn, 1) := by decide +kernel
def f_Mo_body  (p1 : Int32) (x_o_bodies : Int32) (x_o_kind : Nat → Int32) : Option (Int32 × Int32 × (Nat → Int32)) :=
  (f_Mo_in  p1 (0 : Int32) (7 : Int32)).bind fun r1 =>
  if r1 = true then
    (if x_o_bodies = (50 : Int32) then
      (some ((-3 : Int32), x_o_bodies, x_o_kind))
    else
      (if x_o_bodies < 0 ∨ 50 ≤ Int32.toNatClampNeg x_o_bodies then none else
      some (((x_o_bodies + (1 : Int32)) - (1 : Int32)), (x_o_bodies + (1 : Int32)), (upd x_o_kind (Int32.toNatClampNeg x_o_bodies) p1))))
  else
    (some ((-1 : Int32), x_o_bodies, x_o_kind))
set_option maxRecDepth 20000 in
theorem c_Mo_body {l : Launch} {D : va_G} {dA : Nat → ClassId} {a_o a_o_had a_o_told a_o_barred a_o_cost a_o_last a_o_often a_o_changeOf a_o_changeAt a_o_before a_o_behind a_o_tape a_o_act a_o_with a_o_lineMany a_o_testEnd a_o_lineEnd a_o_facts a_o_pile a_o_way a_o_bestWay a_o_wasHad a_o_wasLast a_o_keptHad a_o_keptTold a_o_keptLast a_o_keptOften a_o_kind a_o_traced a_o_holds a_o_size a_o_elements a_o_shifted : Nat} {x_o_code : Int32} {x_o_lamps : Int32} {x_o_at : Int32} {x_o_night : Int32} {x_o_spent : Int32} {x_o_rest : Int32} {x_o_shy : Int32} {x_o_hasBegun : Bool} {x_o_doneMany : Int32} {x_o_undoneMany : Int32} {x_o_taped : Int32} {x_o_here : Int32} {x_o_fault : Int32} {x_o_open : Int32} {x_o_laid : Int32} {x_o_hasLaw : Bool} {x_o_bestMany : Int32} {x_o_wasAt : Int32} {x_o_wasNight : Int32} {x_o_hasImage : Bool} {x_o_keptLamps : Int32} {x_o_keptAt : Int32} {x_o_keptNight : Int32} {x_o_keptSpent : Int32} {x_o_traces : Int32} {p1 : Int32} {x_o_bodies : Int32} {x_o_kind : Nat → Int32} {r0 : Int32} {o_x_o_bodies : Int32} {o_x_o_kind : Nat → Int32}   (hf : f_Mo_body  p1 x_o_bodies x_o_kind = some (r0, o_x_o_bodies, o_x_o_kind)) : CT l y_Mo_body prog_13_method_78_code 2 (some .int) { frames := 1, cells := 0, slots := 0, locals := 22 } D dA [.ref a_o, .int p1] [O_Mo a_o x_o_code x_o_lamps x_o_at x_o_night x_o_spent x_o_rest x_o_shy a_o_had a_o_told a_o_barred a_o_cost a_o_last a_o_often x_o_hasBegun x_o_doneMany x_o_undoneMany a_o_changeOf a_o_changeAt a_o_before a_o_behind a_o_tape x_o_taped x_o_here x_o_fault x_o_open x_o_laid a_o_act a_o_with a_o_lineMany a_o_testEnd a_o_lineEnd a_o_facts a_o_pile x_o_hasLaw a_o_way a_o_bestWay x_o_bestMany a_o_wasHad a_o_wasLast x_o_wasAt x_o_wasNight x_o_hasImage x_o_keptLamps x_o_keptAt x_o_keptNight x_o_keptSpent a_o_keptHad a_o_keptTold a_o_keptLast a_o_keptOften x_o_bodies a_o_kind x_o_traces a_o_traced a_o_holds a_o_size a_o_elements a_o_shifted, A_I dA a_o_kind 50 x_o_kind] (some (.int r0)) (fun _ : Unit => [O_Mo a_o x_o_code x_o_lamps x_o_at x_o_night x_o_spent x_o_rest x_o_shy a_o_had a_o_told a_o_barred a_o_cost a_o_last a_o_often x_o_hasBegun x_o_doneMany x_o_undoneMany a_o_changeOf a_o_changeAt a_o_before a_o_behind a_o_tape x_o_taped x_o_here x_o_fault x_o_open x_o_laid a_o_act a_o_with a_o_lineMany a_o_testEnd a_o_lineEnd a_o_facts a_o_pile x_o_hasLaw a_o_way a_o_bestWay x_o_bestMany a_o_wasHad a_o_wasLast x_o_wasAt x_o_wasNight x_o_hasImage x_o_keptLamps x_o_keptAt x_o_keptNight x_o_keptSpent a_o_keptHad a_o_keptTold a_o_keptLast a_o_keptOften o_x_o_bodies a_o_kind x_o_traces a_o_traced a_o_holds a_o_size a_o_elements a_o_shifted, A_I dA a_o_kind 50 o_x_o_kind]) := by
  refine ct_intro "OneLampModel" rfl (by decide +kernel) (Nat.le_of_ble_eq_true rfl) [(0, .ref a_o), (1, .int p1)] rfl (fun _ C => ?_)
  unfold f_Mo_body at hf
  refine g_iload_n (pc' := 1) C 1 d_Mo_body_0 rfl rfl ?_
  refine g_iconst (pc' := 2) (v := 0) C d_Mo_body_1 rfl rfl ?_
  refine g_bipush (pc' := 4) (v := 7) C d_Mo_body_2 rfl rfl ?_
  replace hf := g_bi hf; obtain ⟨r1, hc2, hf⟩ := hf
  refine g_callS (pc' := 7) (st1 := [.int (b2i r1)]) (ws1 := [O_Mo a_o x_o_code x_o_lamps x_o_at x_o_night x_o_spent x_o_rest x_o_shy a_o_had a_o_told a_o_barred a_o_cost a_o_last a_o_often x_o_hasBegun x_o_doneMany x_o_undoneMany a_o_changeOf a_o_changeAt a_o_before a_o_behind a_o_tape x_o_taped x_o_here x_o_fault x_o_open x_o_laid a_o_act a_o_with a_o_lineMany a_o_testEnd a_o_lineEnd a_o_facts a_o_pile x_o_hasLaw a_o_way a_o_bestWay x_o_bestMany a_o_wasHad a_o_wasLast x_o_wasAt x_o_wasNight x_o_hasImage x_o_keptLamps x_o_keptAt x_o_keptNight x_o_keptSpent a_o_keptHad a_o_keptTold a_o_keptLast a_o_keptOften x_o_bodies a_o_kind x_o_traces a_o_traced a_o_holds a_o_size a_o_elements a_o_shifted, A_I dA a_o_kind 50 x_o_kind]) C (c_Mo_in (l := l) (D := D) (dA := dA)    hc2) yy_Mo_in mw_5_80 d_Mo_body_4 rfl [] rfl rfl (Nat.le_of_ble_eq_true rfl) ⟨Nat.le_of_ble_eq_true rfl, Nat.le_of_ble_eq_true rfl⟩ rfl rfl (Nat.zero_le _) (Nat.zero_le _) [] rfl (by decide +kernel) rfl (g_lay_sel _ _ _ _ [(0, false), (1, false)] (by decide +kernel) rfl (by decide +kernel) rfl rfl) rfl ?_
  refine g_if_neb (pc' := 10) (tgt := 12) C d_Mo_body_7 rfl rfl (fun h => ?_) (fun h => ?_)
  · replace hf := g_bt h hf
    refine g_aload_n (pc' := 13) C 0 d_Mo_body_12 rfl rfl ?_
    refine g_get (pc' := 16) C kf_Mo 50 mw_4_188 d_Mo_body_13 rfl 0 rfl (by decide) rfl ?_
    refine g_bipush (pc' := 18) (v := 50) C d_Mo_body_16 rfl rfl ?_
    refine g_icmp_ne (pc' := 21) (tgt := 24) C d_Mo_body_18 rfl rfl (fun h => ?_) (fun h => ?_)
    · replace hf := g_in h hf
      refine g_aload_n (pc' := 25) C 0 d_Mo_body_24 rfl rfl ?_
      refine g_get (pc' := 28) C kf_Mo 51 mw_4_189 d_Mo_body_25 rfl 0 rfl (by decide) rfl ?_
      refine g_aload_n (pc' := 29) C 0 d_Mo_body_28 rfl rfl ?_
      refine g_get (pc' := 32) C kf_Mo 50 mw_4_188 d_Mo_body_29 rfl 0 rfl (by decide) rfl ?_
      refine g_iload_n (pc' := 33) C 1 d_Mo_body_32 rfl rfl ?_
      have hb := g_ck hf
      replace hf := g_in hb hf
      refine g_iast (pc' := 34) (ws' := [O_Mo a_o x_o_code x_o_lamps x_o_at x_o_night x_o_spent x_o_rest x_o_shy a_o_had a_o_told a_o_barred a_o_cost a_o_last a_o_often x_o_hasBegun x_o_doneMany x_o_undoneMany a_o_changeOf a_o_changeAt a_o_before a_o_behind a_o_tape x_o_taped x_o_here x_o_fault x_o_open x_o_laid a_o_act a_o_with a_o_lineMany a_o_testEnd a_o_lineEnd a_o_facts a_o_pile x_o_hasLaw a_o_way a_o_bestWay x_o_bestMany a_o_wasHad a_o_wasLast x_o_wasAt x_o_wasNight x_o_hasImage x_o_keptLamps x_o_keptAt x_o_keptNight x_o_keptSpent a_o_keptHad a_o_keptTold a_o_keptLast a_o_keptOften x_o_bodies a_o_kind x_o_traces a_o_traced a_o_holds a_o_size a_o_elements a_o_shifted, A_I dA a_o_kind 50 (upd x_o_kind (Int32.toNatClampNeg x_o_bodies) p1)]) C d_Mo_body_33 rfl 1 rfl hb rfl ?_
      refine g_aload_n (pc' := 35) C 0 d_Mo_body_34 rfl rfl ?_
      refine g_dup (pc' := 36) C d_Mo_body_35 rfl rfl ?_
      refine g_get (pc' := 39) C kf_Mo 50 mw_4_188 d_Mo_body_36 rfl 0 rfl (by decide) rfl ?_
      refine g_iconst (pc' := 40) (v := 1) C d_Mo_body_39 rfl rfl ?_
      refine g_iadd (pc' := 41) C d_Mo_body_40 rfl ?_
      refine g_put (pc' := 44) (ws' := [O_Mo a_o x_o_code x_o_lamps x_o_at x_o_night x_o_spent x_o_rest x_o_shy a_o_had a_o_told a_o_barred a_o_cost a_o_last a_o_often x_o_hasBegun x_o_doneMany x_o_undoneMany a_o_changeOf a_o_changeAt a_o_before a_o_behind a_o_tape x_o_taped x_o_here x_o_fault x_o_open x_o_laid a_o_act a_o_with a_o_lineMany a_o_testEnd a_o_lineEnd a_o_facts a_o_pile x_o_hasLaw a_o_way a_o_bestWay x_o_bestMany a_o_wasHad a_o_wasLast x_o_wasAt x_o_wasNight x_o_hasImage x_o_keptLamps x_o_keptAt x_o_keptNight x_o_keptSpent a_o_keptHad a_o_keptTold a_o_keptLast a_o_keptOften (x_o_bodies + (1 : Int32)) a_o_kind x_o_traces a_o_traced a_o_holds a_o_size a_o_elements a_o_shifted, A_I dA a_o_kind 50 (upd x_o_kind (Int32.toNatClampNeg x_o_bodies) p1)]) C kf_Mo 50 mw_4_188 d_Mo_body_41 rfl 0 rfl (by decide) rfl rfl rfl (Nat.le_of_ble_eq_true rfl) rfl ?_
      refine g_aload_n (pc' := 45) C 0 d_Mo_body_44 rfl rfl ?_
      refine g_get (pc' := 48) C kf_Mo 50 mw_4_188 d_Mo_body_45 rfl 0 rfl (by decide) rfl ?_
      refine g_iconst (pc' := 49) (v := 1) C d_Mo_body_48 rfl rfl ?_
      refine g_isub (pc' := 50) C d_Mo_body_49 rfl ?_
      replace hf := g_o2 hf; obtain ⟨h1, hf⟩ := hf; subst h1
      replace hf := g_o2 hf; obtain ⟨h1, hf⟩ := hf; subst h1
      replace hf := Option.some.inj hf; subst hf
      exact g_iret C d_Mo_body_50 () rfl
    · replace hf := g_ip h hf
      refine g_bipush (pc' := 23) (v := (-3)) C d_Mo_body_21 rfl rfl ?_
      replace hf := g_o2 hf; obtain ⟨h1, hf⟩ := hf; subst h1
      replace hf := g_o2 hf; obtain ⟨h1, hf⟩ := hf; subst h1
      replace hf := Option.some.inj hf; subst hf
      exact g_iret C d_Mo_body_23 () rfl
  · replace hf := g_bf h hf
    refine g_iconst (pc' := 11) (v := (-1)) C d_Mo_body_10 rfl rfl ?_
    replace hf := g_o2 hf; obtain ⟨h1, hf⟩ := hf; subst h1
    replace hf := g_o2 hf; obtain ⟨h1, hf⟩ := hf; subst h1
    replace hf := Option.some.inj hf; subst hf
    exact g_iret C d_Mo_body_11 () rfl
def y_Mo_isUnder : MethodName := ⟨"OneLampModel", "isUnder", "(II)Z"⟩
theorem yy_Mo_isUnder : YS y_Mo_isUnder prog_13_method_79_code 2 (some .boolean) 2 := ⟨mw_6_145, mw_1_12, mw_6_144, by decide +kernel, by decide +kernel, by decide +kernel⟩
theorem d_Mo_isUnder_0 : decode prog_13_method_79_code 0 = .ok (.iload_n 1, 1) := by decide +kernel
theorem d_Mo_isUnder_1 : decode prog_13_method_79_code 1 = .ok (.ifCond .eq 55, 3) := by decide +kernel
theorem d_Mo_isUnder_4 : decode prog_13_method_79_code 4 = .ok (.iload_n 0, 1) := by decide +kernel
theorem d_Mo_isUnder_5 : decode prog_13_method_79_code 5 = .ok (.iload_n 1, 1) := by decide +kernel
theorem d_Mo_isUnder_6 : decode prog_13_method_79_code 6 = .ok (.if_icmp .eq 50, 3) := by decide +kernel
theorem d_Mo_isUnder_9 : decode prog_13_method_79_code 9 = .ok (.iload_n 1, 1) := by decide +kernel
theorem d_Mo_isUnder_10 : decode prog_13_method_79_code 10 = .ok (.iconst 1, 1) := by decide +kernel
theorem d_Mo_isUnder_11 : decode prog_13_method_79_code 11 = .ok (.if_icmp .ne 13, 3) := by decide +kernel
theorem d_Mo_isUnder_14 : decode prog_13_method_79_code 14 = .ok (.iload_n 0, 1) := by decide +kernel
theorem d_Mo_isUnder_15 : decode prog_13_method_79_code 15 = .ok (.iconst 4, 1) := by decide +kernel
theorem d_Mo_isUnder_16 : decode prog_13_method_79_code 16 = .ok (.if_icmp .eq 40, 3) := by decide +kernel
theorem d_Mo_isUnder_19 : decode prog_13_method_79_code 19 = .ok (.iload_n 0, 1) := by decide +kernel
theorem d_Mo_isUnder_20 : decode prog_13_method_79_code 20 = .ok (.iconst 5, 1) := by decide +kernel
theorem d_Mo_isUnder_21 : decode prog_13_method_79_code 21 = .ok (.if_icmp .eq 35, 3) := by decide +kernel
theorem d_Mo_isUnder_24 : decode prog_13_method_79_code 24 = .ok (.iload_n 1, 1) := by decide +kernel
theorem d_Mo_isUnder_25 : decode prog_13_method_79_code 25 = .ok (.iconst 2, 1) := by decide +kernel
theorem d_Mo_isUnder_26 : decode prog_13_method_79_code 26 = .ok (.if_icmp .ne 8, 3) := by decide +kernel
theorem d_Mo_isUnder_29 : decode prog_13_method_79_code 29 = .ok (.iload_n 0, 1) := by decide +kernel
theorem d_Mo_isUnder_30 : decode prog_13_method_79_code 30 = .ok (.iconst 3, 1) := by decide +kernel
theorem d_Mo_isUnder_31 : decode prog_13_method_79_code 31 = .ok (.if_icmp .eq 25, 3) := by decide +kernel
theorem d_Mo_isUnder_34 : decode prog_13_method_79_code 34 = .ok (.iload_n 1, 1) := by decide +kernel
theorem d_Mo_isUnder_35 : decode prog_13_method_79_code 35 = .ok (.iconst 4, 1) := by decide +kernel
theorem d_Mo_isUnder_36 : decode prog_13_method_79_code 36 = .ok (.if_icmp .ne 8, 3) := by decide +kernel
theorem d_Mo_isUnder_39 : decode prog_13_method_79_code 39 = .ok (.iload_n 0, 1) := by decide +kernel
theorem d_Mo_isUnder_40 : decode prog_13_method_79_code 40 = .ok (.iconst 5, 1) := by decide +kernel
theorem d_Mo_isUnder_41 : decode prog_13_method_79_code 41 = .ok (.if_icmp .eq 15, 3) := by decide +kernel
theorem d_Mo_isUnder_44 : decode prog_13_method_79_code 44 = .ok (.iload_n 1, 1) := by decide +kernel
theorem d_Mo_isUnder_45 : decode prog_13_method_79_code 45 = .ok (.bipush 6, 2) := by decide +kernel
theorem d_Mo_isUnder_47 : decode prog_13_method_79_code 47 = .ok (.if_icmp .ne 13, 3) := by decide +kernel
theorem d_Mo_isUnder_50 : decode prog_13_method_79_code 50 = .ok (.iload_n 0, 1) := by decide +kernel
theorem d_Mo_isUnder_51 : decode prog_13_method_79_code 51 = .ok (.bipush 7, 2) := by decide +kernel
theorem d_Mo_isUnder_53 : decode prog_13_method_79_code 53 = .ok (.if_icmp .ne 7, 3) := by decide +kernel
theorem d_Mo_isUnder_56 : decode prog_13_method_79_code 56 = .ok (.iconst 1, 1) := by decide +kernel
theorem d_Mo_isUnder_57 : decode prog_13_method_79_code 57 = .ok (.goto 4, 3) := by decide +kernel
theorem d_Mo_isUnder_60 : decode prog_13_method_79_code 60 = .ok (.iconst 0, 1) := by decide +kernel
theorem d_Mo_isUnder_61 : decode prog_13_method_79_code 61 = .ok (.ireturn, 1) := by decide +kernel
def f_Mo_isUnder_L44   (v0 : Int32) (v1 : Int32) : Option (Bool) :=
  if v1 = (6 : Int32) then
    (if v0 = (7 : Int32) then
      (some (true))
    else
      (some (false)))
  else
    (some (false))
set_option maxRecDepth 20000 in
theorem w_Mo_isUnder_L44 {p : Program} {l : Launch} {e : Env} {s : State} {m : MethodId} {args : Array Value} {below : List Frame} {meth : Method} {c : Code} {D : va_G} {dA : Nat → ClassId} {A : Nat → Prop} (C : GC p s m args meth c prog_13_method_79_code 2 "OneLampModel" (some .boolean) D dA A)   {r0 : Bool}    (v0 : Int32) (v1 : Int32) (hf : f_Mo_isUnder_L44   v0 v1 = some r0) : GG p l e { frames := 0, cells := 0, slots := 0, locals := 0 } s m args below meth c 2 D A 0 0 (MQ below (cQ D A (some (.int (b2i r0))) (fun _ : Unit => [])) args s 0 0 A) 44 [(0, .int v0), (1, .int v1)] [] [] := by
  unfold f_Mo_isUnder_L44 at hf
  refine g_iload_n (pc' := 45) C 1 d_Mo_isUnder_44 rfl rfl ?_
  refine g_bipush (pc' := 47) (v := 6) C d_Mo_isUnder_45 rfl rfl ?_
  refine g_icmp_ne (pc' := 50) (tgt := 60) C d_Mo_isUnder_47 rfl rfl (fun h => ?_) (fun h => ?_)
  · replace hf := g_in h hf
    refine g_iconst (pc' := 61) (v := 0) C d_Mo_isUnder_60 rfl rfl ?_
    replace hf := Option.some.inj hf; subst hf
    exact g_zret C d_Mo_isUnder_61 () rfl
  · replace hf := g_ip h hf
    refine g_iload_n (pc' := 51) C 0 d_Mo_isUnder_50 rfl rfl ?_
    refine g_bipush (pc' := 53) (v := 7) C d_Mo_isUnder_51 rfl rfl ?_
    refine g_icmp_ne (pc' := 56) (tgt := 60) C d_Mo_isUnder_53 rfl rfl (fun h => ?_) (fun h => ?_)
    · replace hf := g_in h hf
      refine g_iconst (pc' := 61) (v := 0) C d_Mo_isUnder_60 rfl rfl ?_
      replace hf := Option.some.inj hf; subst hf
      exact g_zret C d_Mo_isUnder_61 () rfl
    · replace hf := g_ip h hf
      refine g_iconst (pc' := 57) (v := 1) C d_Mo_isUnder_56 rfl rfl ?_
      refine g_goto (tgt := 61) C d_Mo_isUnder_57 rfl ?_
      replace hf := Option.some.inj hf; subst hf
      exact g_zret C d_Mo_isUnder_61 () rfl
def f_Mo_isUnder_L34   (v0 : Int32) (v1 : Int32) : Option (Bool) :=
  if v1 = (4 : Int32) then
    (if v0 = (5 : Int32) then
      (some (true))
    else
      (f_Mo_isUnder_L44  v0 v1))
  else
    (f_Mo_isUnder_L44  v0 v1)
set_option maxRecDepth 20000 in
theorem w_Mo_isUnder_L34 {p : Program} {l : Launch} {e : Env} {s : State} {m : MethodId} {args : Array Value} {below : List Frame} {meth : Method} {c : Code} {D : va_G} {dA : Nat → ClassId} {A : Nat → Prop} (C : GC p s m args meth c prog_13_method_79_code 2 "OneLampModel" (some .boolean) D dA A)   {r0 : Bool}    (v0 : Int32) (v1 : Int32) (hf : f_Mo_isUnder_L34   v0 v1 = some r0) : GG p l e { frames := 0, cells := 0, slots := 0, locals := 0 } s m args below meth c 2 D A 0 0 (MQ below (cQ D A (some (.int (b2i r0))) (fun _ : Unit => [])) args s 0 0 A) 34 [(0, .int v0), (1, .int v1)] [] [] := by
  unfold f_Mo_isUnder_L34 at hf
  refine g_iload_n (pc' := 35) C 1 d_Mo_isUnder_34 rfl rfl ?_
  refine g_iconst (pc' := 36) (v := 4) C d_Mo_isUnder_35 rfl rfl ?_
  refine g_icmp_ne (pc' := 39) (tgt := 44) C d_Mo_isUnder_36 rfl rfl (fun h => ?_) (fun h => ?_)
  · replace hf := g_in h hf
    exact w_Mo_isUnder_L44  C   v0 v1 hf
  · replace hf := g_ip h hf
    refine g_iload_n (pc' := 40) C 0 d_Mo_isUnder_39 rfl rfl ?_
    refine g_iconst (pc' := 41) (v := 5) C d_Mo_isUnder_40 rfl rfl ?_
    refine g_icmp_eq (pc' := 44) (tgt := 56) C d_Mo_isUnder_41 rfl rfl (fun h => ?_) (fun h => ?_)
    · replace hf := g_ip h hf
      refine g_iconst (pc' := 57) (v := 1) C d_Mo_isUnder_56 rfl rfl ?_
      refine g_goto (tgt := 61) C d_Mo_isUnder_57 rfl ?_
      replace hf := Option.some.inj hf; subst hf
      exact g_zret C d_Mo_isUnder_61 () rfl
    · replace hf := g_in h hf
      exact w_Mo_isUnder_L44  C   v0 v1 hf
def f_Mo_isUnder_L24   (v0 : Int32) (v1 : Int32) : Option (Bool) :=
  if v1 = (2 : Int32) then
    (if v0 = (3 : Int32) then
      (some (true))
    else
      (f_Mo_isUnder_L34  v0 v1))
  else
    (f_Mo_isUnder_L34  v0 v1)
set_option maxRecDepth 20000 in
theorem w_Mo_isUnder_L24 {p : Program} {l : Launch} {e : Env} {s : State} {m : MethodId} {args : Array Value} {below : List Frame} {meth : Method} {c : Code} {D : va_G} {dA : Nat → ClassId} {A : Nat → Prop} (C : GC p s m args meth c prog_13_method_79_code 2 "OneLampModel" (some .boolean) D dA A)   {r0 : Bool}    (v0 : Int32) (v1 : Int32) (hf : f_Mo_isUnder_L24   v0 v1 = some r0) : GG p l e { frames := 0, cells := 0, slots := 0, locals := 0 } s m args below meth c 2 D A 0 0 (MQ below (cQ D A (some (.int (b2i r0))) (fun _ : Unit => [])) args s 0 0 A) 24 [(0, .int v0), (1, .int v1)] [] [] := by
  unfold f_Mo_isUnder_L24 at hf
  refine g_iload_n (pc' := 25) C 1 d_Mo_isUnder_24 rfl rfl ?_
  refine g_iconst (pc' := 26) (v := 2) C d_Mo_isUnder_25 rfl rfl ?_
  refine g_icmp_ne (pc' := 29) (tgt := 34) C d_Mo_isUnder_26 rfl rfl (fun h => ?_) (fun h => ?_)
  · replace hf := g_in h hf
    exact w_Mo_isUnder_L34  C   v0 v1 hf
  · replace hf := g_ip h hf
    refine g_iload_n (pc' := 30) C 0 d_Mo_isUnder_29 rfl rfl ?_
    refine g_iconst (pc' := 31) (v := 3) C d_Mo_isUnder_30 rfl rfl ?_
    refine g_icmp_eq (pc' := 34) (tgt := 56) C d_Mo_isUnder_31 rfl rfl (fun h => ?_) (fun h => ?_)
    · replace hf := g_ip h hf
      refine g_iconst (pc' := 57) (v := 1) C d_Mo_isUnder_56 rfl rfl ?_
      refine g_goto (tgt := 61) C d_Mo_isUnder_57 rfl ?_
      replace hf := Option.some.inj hf; subst hf
      exact g_zret C d_Mo_isUnder_61 () rfl
    · replace hf := g_in h hf
      exact w_Mo_isUnder_L34  C   v0 v1 hf
def f_Mo_isUnder  (p0 : Int32) (p1 : Int32) : Option (Bool) :=
  if p1 = 0 then
    (some (true))
  else
    (if p0 = p1 then
      (some (true))
    else
      (if p1 = (1 : Int32) then
        (if p0 = (4 : Int32) then
          (some (true))
        else
          (if p0 = (5 : Int32) then
            (some (true))
          else
            (f_Mo_isUnder_L24  p0 p1)))
      else
        (f_Mo_isUnder_L24  p0 p1)))
set_option maxRecDepth 20000 in
theorem c_Mo_isUnder {l : Launch} {D : va_G} {dA : Nat → ClassId}   {p0 : Int32} {p1 : Int32} {r0 : Bool}   (hf : f_Mo_isUnder  p0 p1 = some r0) : CT l y_Mo_isUnder prog_13_method_79_code 2 (some .boolean) { frames := 0, cells := 0, slots := 0, locals := 0 } D dA [.int p0, .int p1] [] (some (.int (b2i r0))) (fun _ : Unit => []) := by
  refine ct_intro "OneLampModel" rfl (by decide +kernel) (Nat.le_of_ble_eq_true rfl) [(0, .int p0), (1, .int p1)] rfl (fun _ C => ?_)
  unfold f_Mo_isUnder at hf
  refine g_iload_n (pc' := 1) C 1 d_Mo_isUnder_0 rfl rfl ?_
  refine g_if_eq (pc' := 4) (tgt := 56) C d_Mo_isUnder_1 rfl rfl (fun h => ?_) (fun h => ?_)
  · replace hf := g_ip h hf
    refine g_iconst (pc' := 57) (v := 1) C d_Mo_isUnder_56 rfl rfl ?_
    refine g_goto (tgt := 61) C d_Mo_isUnder_57 rfl ?_
    replace hf := Option.some.inj hf; subst hf
    exact g_zret C d_Mo_isUnder_61 () rfl
  · replace hf := g_in h hf
    refine g_iload_n (pc' := 5) C 0 d_Mo_isUnder_4 rfl rfl ?_
    refine g_iload_n (pc' := 6) C 1 d_Mo_isUnder_5 rfl rfl ?_
    refine g_icmp_eq (pc' := 9) (tgt := 56) C d_Mo_isUnder_6 rfl rfl (fun h => ?_) (fun h => ?_)
    · replace hf := g_ip h hf
      refine g_iconst (pc' := 57) (v := 1) C d_Mo_isUnder_56 rfl rfl ?_
      refine g_goto (tgt := 61) C d_Mo_isUnder_57 rfl ?_
      replace hf := Option.some.inj hf; subst hf
      exact g_zret C d_Mo_isUnder_61 () rfl
    · replace hf := g_in h hf
      refine g_iload_n (pc' := 10) C 1 d_Mo_isUnder_9 rfl rfl ?_
      refine g_iconst (pc' := 11) (v := 1) C d_Mo_isUnder_10 rfl rfl ?_
      refine g_icmp_ne (pc' := 14) (tgt := 24) C d_Mo_isUnder_11 rfl rfl (fun h => ?_) (fun h => ?_)
      · replace hf := g_in h hf
        exact w_Mo_isUnder_L24  C   p0 p1 hf
      · replace hf := g_ip h hf
        refine g_iload_n (pc' := 15) C 0 d_Mo_isUnder_14 rfl rfl ?_
        refine g_iconst (pc' := 16) (v := 4) C d_Mo_isUnder_15 rfl rfl ?_
        refine g_icmp_eq (pc' := 19) (tgt := 56) C d_Mo_isUnder_16 rfl rfl (fun h => ?_) (fun h => ?_)
        · replace hf := g_ip h hf
          refine g_iconst (pc' := 57) (v := 1) C d_Mo_isUnder_56 rfl rfl ?_
          refine g_goto (tgt := 61) C d_Mo_isUnder_57 rfl ?_
          replace hf := Option.some.inj hf; subst hf
          exact g_zret C d_Mo_isUnder_61 () rfl
        · replace hf := g_in h hf
          refine g_iload_n (pc' := 20) C 0 d_Mo_isUnder_19 rfl rfl ?_
          refine g_iconst (pc' := 21) (v := 5) C d_Mo_isUnder_20 rfl rfl ?_
          refine g_icmp_eq (pc' := 24) (tgt := 56) C d_Mo_isUnder_21 rfl rfl (fun h => ?_) (fun h => ?_)
          · replace hf := g_ip h hf
            refine g_iconst (pc' := 57) (v := 1) C d_Mo_isUnder_56 rfl rfl ?_
            refine g_goto (tgt := 61) C d_Mo_isUnder_57 rfl ?_
            replace hf := Option.some.inj hf; subst hf
            exact g_zret C d_Mo_isUnder_61 () rfl
          · replace hf := g_in h hf
            exact w_Mo_isUnder_L24  C   p0 p1 hf
