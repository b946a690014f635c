def y_Sg_joins : MethodName := ⟨"OneLamp$Sign", "joins", "(I)Z"⟩
theorem yy_Sg_joins : YS y_Sg_joins prog_8_method_3_code 1 (some .boolean) 1 := ⟨mw_3_7, mw_1_15, mw_3_6, by decide +kernel, by decide +kernel, by decide +kernel⟩
theorem d_Sg_joins_0 : decode prog_8_method_3_code 0 = .ok (.iload_n 0, 1) := by decide +kernel
theorem d_Sg_joins_1 : decode prog_8_method_3_code 1 = .ok (.lookupswitch 93 #[(-124, 91), (-62, 91), (-61, 91), (-60, 91), (-47, 91), (-45, 91), (-43, 91), (-42, 91), (-38, 91), (-37, 91)], 91) := by decide +kernel
theorem d_Sg_joins_92 : decode prog_8_method_3_code 92 = .ok (.iconst 1, 1) := by decide +kernel
theorem d_Sg_joins_93 : decode prog_8_method_3_code 93 = .ok (.ireturn, 1) := by decide +kernel
theorem d_Sg_joins_94 : decode prog_8_method_3_code 94 = .ok (.iconst 0, 1) := by decide +kernel
theorem d_Sg_joins_95 : decode prog_8_method_3_code 95 = .ok (.ireturn, 1) := by decide +kernel
def f_Sg_joins  (p0 : Int32) : Option (Bool) :=
  if p0 = (-124) then
    (some (true))
  else
  (if p0 = (-62) then
    (some (true))
  else
  (if p0 = (-61) then
    (some (true))
  else
  (if p0 = (-60) then
    (some (true))
  else
  (if p0 = (-47) then
    (some (true))
  else
  (if p0 = (-45) then
    (some (true))
  else
  (if p0 = (-43) then
    (some (true))
  else
  (if p0 = (-42) then
    (some (true))
  else
  (if p0 = (-38) then
    (some (true))
  else
  (if p0 = (-37) then
    (some (true))
  else
  (some (false)))))))))))
set_option maxRecDepth 20000 in
theorem c_Sg_joins {l : Launch} {D : va_G} {dA : Nat → ClassId}   {p0 : Int32} {r0 : Bool}   (hf : f_Sg_joins  p0 = some r0) : CT l y_Sg_joins prog_8_method_3_code 1 (some .boolean) { frames := 0, cells := 0, slots := 0, locals := 0 } D dA [.int p0] [] (some (.int (b2i r0))) (fun _ : Unit => []) := by
  refine ct_intro "OneLamp$Sign" rfl (by decide +kernel) (Nat.le_of_ble_eq_true rfl) [(0, .int p0)] rfl (fun _ C => ?_)
  unfold f_Sg_joins at hf
  refine g_iload_n (pc' := 1) C 0 d_Sg_joins_0 rfl rfl ?_
  by_cases q0 : p0 = (-124)
  · replace hf := g_ip q0 hf
    have e : (p0 : Int32).toInt = (-124) := by rw [q0]; rfl
    refine g_lookup (off := 91) (tgt := 92) C d_Sg_joins_1 (by decide) (by rw [e]; rfl) rfl ?_
    refine g_iconst (pc' := 93) (v := 1) C d_Sg_joins_92 rfl rfl ?_
    replace hf := Option.some.inj hf; subst hf
    exact g_zret C d_Sg_joins_93 () rfl
  replace hf := g_in q0 hf
  by_cases q1 : p0 = (-62)
  · replace hf := g_ip q1 hf
    have e : (p0 : Int32).toInt = (-62) := by rw [q1]; rfl
    refine g_lookup (off := 91) (tgt := 92) C d_Sg_joins_1 (by decide) (by rw [e]; rfl) rfl ?_
    refine g_iconst (pc' := 93) (v := 1) C d_Sg_joins_92 rfl rfl ?_
    replace hf := Option.some.inj hf; subst hf
    exact g_zret C d_Sg_joins_93 () rfl
  replace hf := g_in q1 hf
  by_cases q2 : p0 = (-61)
  · replace hf := g_ip q2 hf
    have e : (p0 : Int32).toInt = (-61) := by rw [q2]; rfl
    refine g_lookup (off := 91) (tgt := 92) C d_Sg_joins_1 (by decide) (by rw [e]; rfl) rfl ?_
    refine g_iconst (pc' := 93) (v := 1) C d_Sg_joins_92 rfl rfl ?_
    replace hf := Option.some.inj hf; subst hf
    exact g_zret C d_Sg_joins_93 () rfl
  replace hf := g_in q2 hf
  by_cases q3 : p0 = (-60)
  · replace hf := g_ip q3 hf
    have e : (p0 : Int32).toInt = (-60) := by rw [q3]; rfl
    refine g_lookup (off := 91) (tgt := 92) C d_Sg_joins_1 (by decide) (by rw [e]; rfl) rfl ?_
    refine g_iconst (pc' := 93) (v := 1) C d_Sg_joins_92 rfl rfl ?_
    replace hf := Option.some.inj hf; subst hf
    exact g_zret C d_Sg_joins_93 () rfl
  replace hf := g_in q3 hf
  by_cases q4 : p0 = (-47)
  · replace hf := g_ip q4 hf
    have e : (p0 : Int32).toInt = (-47) := by rw [q4]; rfl
    refine g_lookup (off := 91) (tgt := 92) C d_Sg_joins_1 (by decide) (by rw [e]; rfl) rfl ?_
    refine g_iconst (pc' := 93) (v := 1) C d_Sg_joins_92 rfl rfl ?_
    replace hf := Option.some.inj hf; subst hf
    exact g_zret C d_Sg_joins_93 () rfl
  replace hf := g_in q4 hf
  by_cases q5 : p0 = (-45)
  · replace hf := g_ip q5 hf
    have e : (p0 : Int32).toInt = (-45) := by rw [q5]; rfl
    refine g_lookup (off := 91) (tgt := 92) C d_Sg_joins_1 (by decide) (by rw [e]; rfl) rfl ?_
    refine g_iconst (pc' := 93) (v := 1) C d_Sg_joins_92 rfl rfl ?_
    replace hf := Option.some.inj hf; subst hf
    exact g_zret C d_Sg_joins_93 () rfl
  replace hf := g_in q5 hf
  by_cases q6 : p0 = (-43)
  · replace hf := g_ip q6 hf
    have e : (p0 : Int32).toInt = (-43) := by rw [q6]; rfl
    refine g_lookup (off := 91) (tgt := 92) C d_Sg_joins_1 (by decide) (by rw [e]; rfl) rfl ?_
    refine g_iconst (pc' := 93) (v := 1) C d_Sg_joins_92 rfl rfl ?_
    replace hf := Option.some.inj hf; subst hf
    exact g_zret C d_Sg_joins_93 () rfl
  replace hf := g_in q6 hf
  by_cases q7 : p0 = (-42)
  · replace hf := g_ip q7 hf
    have e : (p0 : Int32).toInt = (-42) := by rw [q7]; rfl
    refine g_lookup (off := 91) (tgt := 92) C d_Sg_joins_1 (by decide) (by rw [e]; rfl) rfl ?_
    refine g_iconst (pc' := 93) (v := 1) C d_Sg_joins_92 rfl rfl ?_
    replace hf := Option.some.inj hf; subst hf
    exact g_zret C d_Sg_joins_93 () rfl
  replace hf := g_in q7 hf
  by_cases q8 : p0 = (-38)
  · replace hf := g_ip q8 hf
    have e : (p0 : Int32).toInt = (-38) := by rw [q8]; rfl
    refine g_lookup (off := 91) (tgt := 92) C d_Sg_joins_1 (by decide) (by rw [e]; rfl) rfl ?_
    refine g_iconst (pc' := 93) (v := 1) C d_Sg_joins_92 rfl rfl ?_
    replace hf := Option.some.inj hf; subst hf
    exact g_zret C d_Sg_joins_93 () rfl
  replace hf := g_in q8 hf
  by_cases q9 : p0 = (-37)
  · replace hf := g_ip q9 hf
    have e : (p0 : Int32).toInt = (-37) := by rw [q9]; rfl
    refine g_lookup (off := 91) (tgt := 92) C d_Sg_joins_1 (by decide) (by rw [e]; rfl) rfl ?_
    refine g_iconst (pc' := 93) (v := 1) C d_Sg_joins_92 rfl rfl ?_
    replace hf := Option.some.inj hf; subst hf
    exact g_zret C d_Sg_joins_93 () rfl
  replace hf := g_in q9 hf
  refine g_lookup (off := 93) (tgt := 94) C d_Sg_joins_1 (by decide) (by show Op.lookupswitch.offset [((-124), 91), ((-62), 91), ((-61), 91), ((-60), 91), ((-47), 91), ((-45), 91), ((-43), 91), ((-42), 91), ((-38), 91), ((-37), 91)] 93 (p0 : Int32).toInt = 93; rw [lv_osw (a := (-124)) q0 rfl, lv_osw (a := (-62)) q1 rfl, lv_osw (a := (-61)) q2 rfl, lv_osw (a := (-60)) q3 rfl, lv_osw (a := (-47)) q4 rfl, lv_osw (a := (-45)) q5 rfl, lv_osw (a := (-43)) q6 rfl, lv_osw (a := (-42)) q7 rfl, lv_osw (a := (-38)) q8 rfl, lv_osw (a := (-37)) q9 rfl]; rfl) rfl ?_
  refine g_iconst (pc' := 95) (v := 0) C d_Sg_joins_94 rfl rfl ?_
  replace hf := Option.some.inj hf; subst hf
  exact g_zret C d_Sg_joins_95 () rfl
def y_Sg_takesOperands : MethodName := ⟨"OneLamp$Sign", "takesOperands", "(I)Z"⟩
theorem yy_Sg_takesOperands : YS y_Sg_takesOperands prog_8_method_2_code 1 (some .boolean) 1 := ⟨mw_3_4, mw_1_15, mw_3_3, by decide +kernel, by decide +kernel, by decide +kernel⟩
theorem d_Sg_takesOperands_0 : decode prog_8_method_2_code 0 = .ok (.iload_n 0, 1) := by decide +kernel
theorem d_Sg_takesOperands_1 : decode prog_8_method_2_code 1 = .ok (.bipush (-33), 2) := by decide +kernel
theorem d_Sg_takesOperands_3 : decode prog_8_method_2_code 3 = .ok (.if_icmp .eq 16, 3) := by decide +kernel
theorem d_Sg_takesOperands_6 : decode prog_8_method_2_code 6 = .ok (.iload_n 0, 1) := by decide +kernel
theorem d_Sg_takesOperands_7 : decode prog_8_method_2_code 7 = .ok (.bipush (-126), 2) := by decide +kernel
theorem d_Sg_takesOperands_9 : decode prog_8_method_2_code 9 = .ok (.if_icmp .eq 10, 3) := by decide +kernel
theorem d_Sg_takesOperands_12 : decode prog_8_method_2_code 12 = .ok (.iload_n 0, 1) := by decide +kernel
theorem d_Sg_takesOperands_13 : decode prog_8_method_2_code 13 = .ok (.invokestatic 9, 3) := by decide +kernel
theorem d_Sg_takesOperands_16 : decode prog_8_method_2_code 16 = .ok (.ifCond .eq 7, 3) := by decide +kernel
theorem d_Sg_takesOperands_19 : decode prog_8_method_2_code 19 = .ok (.iconst 1, 1) := by decide +kernel
theorem d_Sg_takesOperands_20 : decode prog_8_method_2_code 20 = .ok (.goto 4, 3) := by decide +kernel
theorem d_Sg_takesOperands_23 : decode prog_8_method_2_code 23 = .ok (.iconst 0, 1) := by decide +kernel
theorem d_Sg_takesOperands_24 : decode prog_8_method_2_code 24 = .ok (.ireturn, 1) := by decide +kernel
def f_Sg_takesOperands  (p0 : Int32) : Option (Bool) :=
  if p0 = (-33 : Int32) then
    (some (true))
  else
    (if p0 = (-126 : Int32) then
      (some (true))
    else
      ((f_Sg_joins  p0).bind fun r1 =>
      if r1 = true then
        (some (true))
      else
        (some (false))))
set_option maxRecDepth 20000 in
theorem c_Sg_takesOperands {l : Launch} {D : va_G} {dA : Nat → ClassId}   {p0 : Int32} {r0 : Bool}   (hf : f_Sg_takesOperands  p0 = some r0) : CT l y_Sg_takesOperands prog_8_method_2_code 1 (some .boolean) { frames := 1, cells := 0, slots := 0, locals := 20 } D dA [.int p0] [] (some (.int (b2i r0))) (fun _ : Unit => []) := by
  refine ct_intro "OneLamp$Sign" rfl (by decide +kernel) (Nat.le_of_ble_eq_true rfl) [(0, .int p0)] rfl (fun _ C => ?_)
  unfold f_Sg_takesOperands at hf
  refine g_iload_n (pc' := 1) C 0 d_Sg_takesOperands_0 rfl rfl ?_
  refine g_bipush (pc' := 3) (v := (-33)) C d_Sg_takesOperands_1 rfl rfl ?_
  refine g_icmp_eq (pc' := 6) (tgt := 19) C d_Sg_takesOperands_3 rfl rfl (fun h => ?_) (fun h => ?_)
  · replace hf := g_ip h hf
    refine g_iconst (pc' := 20) (v := 1) C d_Sg_takesOperands_19 rfl rfl ?_
    refine g_goto (tgt := 24) C d_Sg_takesOperands_20 rfl ?_
    replace hf := Option.some.inj hf; subst hf
    exact g_zret C d_Sg_takesOperands_24 () rfl
  · replace hf := g_in h hf
    refine g_iload_n (pc' := 7) C 0 d_Sg_takesOperands_6 rfl rfl ?_
    refine g_bipush (pc' := 9) (v := (-126)) C d_Sg_takesOperands_7 rfl rfl ?_
    refine g_icmp_eq (pc' := 12) (tgt := 19) C d_Sg_takesOperands_9 rfl rfl (fun h => ?_) (fun h => ?_)
    · replace hf := g_ip h hf
      refine g_iconst (pc' := 20) (v := 1) C d_Sg_takesOperands_19 rfl rfl ?_
      refine g_goto (tgt := 24) C d_Sg_takesOperands_20 rfl ?_
      replace hf := Option.some.inj hf; subst hf
      exact g_zret C d_Sg_takesOperands_24 () rfl
    · replace hf := g_in h hf
      refine g_iload_n (pc' := 13) C 0 d_Sg_takesOperands_12 rfl rfl ?_
      replace hf := g_bi hf; obtain ⟨r1, hc2, hf⟩ := hf
      refine g_callS (pc' := 16) (st1 := [.int (b2i r1)]) (ws1 := []) C (c_Sg_joins (l := l) (D := D) (dA := dA)    hc2) yy_Sg_joins mw_3_5 d_Sg_takesOperands_13 rfl [] rfl rfl (Nat.le_of_ble_eq_true rfl) ⟨Nat.le_of_ble_eq_true rfl, Nat.le_of_ble_eq_true rfl⟩ rfl rfl (Nat.zero_le _) (Nat.zero_le _) [] rfl (by decide +kernel) rfl (g_lay_sel _ _ _ _ [] (by decide +kernel) rfl (by decide +kernel) rfl rfl) rfl ?_
      refine g_if_eqb (pc' := 19) (tgt := 23) C d_Sg_takesOperands_16 rfl rfl (fun h => ?_) (fun h => ?_)
      · replace hf := g_bf h hf
        refine g_iconst (pc' := 24) (v := 0) C d_Sg_takesOperands_23 rfl rfl ?_
        replace hf := Option.some.inj hf; subst hf
        exact g_zret C d_Sg_takesOperands_24 () rfl
      · replace hf := g_bt h hf
        refine g_iconst (pc' := 20) (v := 1) C d_Sg_takesOperands_19 rfl rfl ?_
        refine g_goto (tgt := 24) C d_Sg_takesOperands_20 rfl ?_
        replace hf := Option.some.inj hf; subst hf
        exact g_zret C d_Sg_takesOperands_24 () rfl
def y_La_become : MethodName := ⟨"OneLamp$Law", "become", "([II)V"⟩
theorem yy_La_become : YV y_La_become prog_4_method_2_code 3 none 2 := ⟨mw_2_170, mw_1_6, mw_2_168, mw_2_169, by decide +kernel, by decide +kernel, by decide +kernel⟩
theorem d_La_become_0 : decode prog_4_method_2_code 0 = .ok (.iload_n 2, 1) := by decide +kernel
theorem d_La_become_1 : decode prog_4_method_2_code 1 = .ok (.ifCond .lt 32, 3) := by decide +kernel
theorem d_La_become_4 : decode prog_4_method_2_code 4 = .ok (.iload_n 2, 1) := by decide +kernel
theorem d_La_become_5 : decode prog_4_method_2_code 5 = .ok (.sipush 256, 3) := by decide +kernel
theorem d_La_become_8 : decode prog_4_method_2_code 8 = .ok (.if_icmp .gt 25, 3) := by decide +kernel
theorem d_La_become_11 : decode prog_4_method_2_code 11 = .ok (.iload_n 2, 1) := by decide +kernel
theorem d_La_become_12 : decode prog_4_method_2_code 12 = .ok (.aload_n 1, 1) := by decide +kernel
theorem d_La_become_13 : decode prog_4_method_2_code 13 = .ok (.arraylength, 1) := by decide +kernel
theorem d_La_become_14 : decode prog_4_method_2_code 14 = .ok (.if_icmp .gt 19, 3) := by decide +kernel
theorem d_La_become_17 : decode prog_4_method_2_code 17 = .ok (.aload_n 1, 1) := by decide +kernel
theorem d_La_become_18 : decode prog_4_method_2_code 18 = .ok (.iconst 0, 1) := by decide +kernel
theorem d_La_become_19 : decode prog_4_method_2_code 19 = .ok (.aload_n 0, 1) := by decide +kernel
theorem d_La_become_20 : decode prog_4_method_2_code 20 = .ok (.getfield 11, 3) := by decide +kernel
theorem d_La_become_23 : decode prog_4_method_2_code 23 = .ok (.iconst 0, 1) := by decide +kernel
theorem d_La_become_24 : decode prog_4_method_2_code 24 = .ok (.iload_n 2, 1) := by decide +kernel
theorem d_La_become_25 : decode prog_4_method_2_code 25 = .ok (.invokestatic 18, 3) := by decide +kernel
theorem d_La_become_28 : decode prog_4_method_2_code 28 = .ok (.aload_n 0, 1) := by decide +kernel
theorem d_La_become_29 : decode prog_4_method_2_code 29 = .ok (.iload_n 2, 1) := by decide +kernel
theorem d_La_become_30 : decode prog_4_method_2_code 30 = .ok (.putfield 24, 3) := by decide +kernel
theorem d_La_become_33 : decode prog_4_method_2_code 33 = .ok (.return_, 1) := by decide +kernel
def f_La_become  (p2 : Int32) (x_p1 : Nat → Int32) (n_p1 : Nat) (x_o_length : Int32) (x_o_code : Nat → Int32) : Option (Int32 × (Nat → Int32)) :=
  if p2 < 0 then
    (some (x_o_length, x_o_code))
  else
    (if (256 : Int32) < p2 then
      (some (x_o_length, x_o_code))
    else
      (if (Int32.ofNat n_p1) < p2 then
        (some (x_o_length, x_o_code))
      else
        (if (0 : Int32) < 0 ∨ (0 : Int32) < 0 ∨ p2 < 0 ∨ n_p1 < Int32.toNatClampNeg (0 : Int32) + Int32.toNatClampNeg p2 ∨ 256 < Int32.toNatClampNeg (0 : Int32) + Int32.toNatClampNeg p2 then none else
        some (p2, (va_cpy x_p1 x_o_code (Int32.toNatClampNeg (0 : Int32)) (Int32.toNatClampNeg (0 : Int32)) (Int32.toNatClampNeg p2))))))
set_option maxRecDepth 20000 in
theorem c_La_become {l : Launch} {D : va_G} {dA : Nat → ClassId} {a_o a_p1 a_o_code a_o_stack : Nat} {x_o_top : Int32} {p2 : Int32} {x_p1 : Nat → Int32} {n_p1 : Nat} {x_o_length : Int32} {x_o_code : Nat → Int32} {o_x_o_length : Int32} {o_x_o_code : Nat → Int32}   (hf : f_La_become  p2 x_p1 n_p1 x_o_length x_o_code = some (o_x_o_length, o_x_o_code)) : CT l y_La_become prog_4_method_2_code 3 none { frames := 1, cells := 0, slots := 0, locals := 40 } D dA [.ref a_o, .ref a_p1, .int p2] [A_I dA a_p1 n_p1 x_p1, O_La a_o a_o_code x_o_length a_o_stack x_o_top, A_I dA a_o_code 256 x_o_code] none (fun _ : Unit => [A_I dA a_p1 n_p1 x_p1, O_La a_o a_o_code o_x_o_length a_o_stack x_o_top, A_I dA a_o_code 256 o_x_o_code]) := by
  refine ct_intro "OneLamp$Law" rfl (by decide +kernel) (Nat.le_of_ble_eq_true rfl) [(0, .ref a_o), (1, .ref a_p1), (2, .int p2)] rfl (fun _ C => ?_)
  unfold f_La_become at hf
  refine g_iload_n (pc' := 1) C 2 d_La_become_0 rfl rfl ?_
  refine g_if_lt (pc' := 4) (tgt := 33) C d_La_become_1 rfl rfl (fun h => ?_) (fun h => ?_)
  · replace hf := g_ip h hf
    replace hf := g_o2 hf; obtain ⟨h1, hf⟩ := hf; subst h1
    replace hf := Option.some.inj hf; subst hf
    exact g_vret C d_La_become_33 () rfl
  · replace hf := g_in h hf
    refine g_iload_n (pc' := 5) C 2 d_La_become_4 rfl rfl ?_
    refine g_sipush (pc' := 8) (v := 256) C d_La_become_5 rfl rfl ?_
    refine g_icmp_gt (pc' := 11) (tgt := 33) C d_La_become_8 rfl rfl (fun h => ?_) (fun h => ?_)
    · replace hf := g_ip h hf
      replace hf := g_o2 hf; obtain ⟨h1, hf⟩ := hf; subst h1
      replace hf := Option.some.inj hf; subst hf
      exact g_vret C d_La_become_33 () rfl
    · replace hf := g_in h hf
      refine g_iload_n (pc' := 12) C 2 d_La_become_11 rfl rfl ?_
      refine g_aload_n (pc' := 13) C 1 d_La_become_12 rfl rfl ?_
      refine g_alen (pc' := 14) (v := (Int32.ofNat n_p1)) C d_La_become_13 rfl 0 0 rfl rfl rfl ?_
      refine g_icmp_gt (pc' := 17) (tgt := 33) C d_La_become_14 rfl rfl (fun h => ?_) (fun h => ?_)
      · replace hf := g_ip h hf
        replace hf := g_o2 hf; obtain ⟨h1, hf⟩ := hf; subst h1
        replace hf := Option.some.inj hf; subst hf
        exact g_vret C d_La_become_33 () rfl
      · replace hf := g_in h hf
        refine g_aload_n (pc' := 18) C 1 d_La_become_17 rfl rfl ?_
        refine g_iconst (pc' := 19) (v := 0) C d_La_become_18 rfl rfl ?_
        refine g_aload_n (pc' := 20) C 0 d_La_become_19 rfl rfl ?_
        refine g_get (pc' := 23) C kf_La 0 mw_1_115 d_La_become_20 rfl 1 rfl (by decide) rfl ?_
        refine g_iconst (pc' := 24) (v := 0) C d_La_become_23 rfl rfl ?_
        refine g_iload_n (pc' := 25) C 2 d_La_become_24 rfl rfl ?_
        have hb := g_cp (g_ck hf)
        replace hf := g_in (g_ck hf) hf
        refine g_copyi (pc' := 28) (ws' := [A_I dA a_p1 n_p1 x_p1, O_La a_o a_o_code x_o_length a_o_stack x_o_top, A_I dA a_o_code 256 (va_cpy x_p1 x_o_code (Int32.toNatClampNeg (0 : Int32)) (Int32.toNatClampNeg (0 : Int32)) (Int32.toNatClampNeg p2))]) C mw_2_171 mw_2_173 mw_2_172 mw_1_13 d_La_become_25 rfl 0 2 rfl rfl hb.1 hb.2.1 hb.2.2.1 hb.2.2.2.1 hb.2.2.2.2 (Nat.le_of_ble_eq_true rfl) (Nat.le_of_ble_eq_true rfl) rfl ?_
        refine g_aload_n (pc' := 29) C 0 d_La_become_28 rfl rfl ?_
        refine g_iload_n (pc' := 30) C 2 d_La_become_29 rfl rfl ?_
        refine g_put (pc' := 33) (ws' := [A_I dA a_p1 n_p1 x_p1, O_La a_o a_o_code p2 a_o_stack x_o_top, A_I dA a_o_code 256 (va_cpy x_p1 x_o_code (Int32.toNatClampNeg (0 : Int32)) (Int32.toNatClampNeg (0 : Int32)) (Int32.toNatClampNeg p2))]) C kf_La 1 mw_1_116 d_La_become_30 rfl 1 rfl (by decide) rfl rfl rfl (Nat.le_of_ble_eq_true rfl) rfl ?_
        replace hf := g_o2 hf; obtain ⟨h1, hf⟩ := hf; subst h1
        replace hf := Option.some.inj hf; subst hf
        exact g_vret C d_La_become_33 () rfl
def y_La_pop : MethodName := ⟨"OneLamp$Law", "pop", "()I"⟩
theorem yy_La_pop : YV y_La_pop prog_4_method_8_code 1 (some .int) 0 := ⟨mw_3_1, mw_1_6, mw_3_0, tm_s (y := y_La_pop) (n := 4) (by decide +kernel), by decide +kernel, by decide +kernel, by decide +kernel⟩
theorem d_La_pop_0 : decode prog_4_method_8_code 0 = .ok (.aload_n 0, 1) := by decide +kernel
theorem d_La_pop_1 : decode prog_4_method_8_code 1 = .ok (.getfield 28, 3) := by decide +kernel
theorem d_La_pop_4 : decode prog_4_method_8_code 4 = .ok (.ifCond .le 13, 3) := by decide +kernel
theorem d_La_pop_7 : decode prog_4_method_8_code 7 = .ok (.aload_n 0, 1) := by decide +kernel
theorem d_La_pop_8 : decode prog_4_method_8_code 8 = .ok (.getfield 28, 3) := by decide +kernel
theorem d_La_pop_11 : decode prog_4_method_8_code 11 = .ok (.sipush 256, 3) := by decide +kernel
theorem d_La_pop_14 : decode prog_4_method_8_code 14 = .ok (.if_icmp .le 5, 3) := by decide +kernel
theorem d_La_pop_17 : decode prog_4_method_8_code 17 = .ok (.iconst 0, 1) := by decide +kernel
theorem d_La_pop_18 : decode prog_4_method_8_code 18 = .ok (.ireturn, 1) := by decide +kernel
theorem d_La_pop_19 : decode prog_4_method_8_code 19 = .ok (.aload_n 0, 1) := by decide +kernel
theorem d_La_pop_20 : decode prog_4_method_8_code 20 = .ok (.dup, 1) := by decide +kernel
theorem d_La_pop_21 : decode prog_4_method_8_code 21 = .ok (.getfield 28, 3) := by decide +kernel
theorem d_La_pop_24 : decode prog_4_method_8_code 24 = .ok (.iconst 1, 1) := by decide +kernel
theorem d_La_pop_25 : decode prog_4_method_8_code 25 = .ok (.isub, 1) := by decide +kernel
theorem d_La_pop_26 : decode prog_4_method_8_code 26 = .ok (.putfield 28, 3) := by decide +kernel
theorem d_La_pop_29 : decode prog_4_method_8_code 29 = .ok (.aload_n 0, 1) := by decide +kernel
theorem d_La_pop_30 : decode prog_4_method_8_code 30 = .ok (.getfield 15, 3) := by decide +kernel
theorem d_La_pop_33 : decode prog_4_method_8_code 33 = .ok (.aload_n 0, 1) := by decide +kernel
theorem d_La_pop_34 : decode prog_4_method_8_code 34 = .ok (.getfield 28, 3) := by decide +kernel
theorem d_La_pop_37 : decode prog_4_method_8_code 37 = .ok (.iaload, 1) := by decide +kernel
theorem d_La_pop_38 : decode prog_4_method_8_code 38 = .ok (.ireturn, 1) := by decide +kernel
def f_La_pop  (x_o_top : Int32) (x_o_stack : Nat → Int32) : Option (Int32 × Int32) :=
  if x_o_top ≤ 0 then
    (some ((0 : Int32), x_o_top))
  else
    (if x_o_top ≤ (256 : Int32) then
      (if (x_o_top - (1 : Int32)) < 0 ∨ 256 ≤ Int32.toNatClampNeg (x_o_top - (1 : Int32)) then none else
      some ((x_o_stack (Int32.toNatClampNeg (x_o_top - (1 : Int32)))), (x_o_top - (1 : Int32))))
    else
      (some ((0 : Int32), x_o_top)))
set_option maxRecDepth 20000 in
theorem c_La_pop {l : Launch} {D : va_G} {dA : Nat → ClassId} {a_o a_o_code a_o_stack : Nat} {x_o_length : Int32} {x_o_top : Int32} {x_o_stack : Nat → Int32} {r0 : Int32} {o_x_o_top : Int32}   (hf : f_La_pop  x_o_top x_o_stack = some (r0, o_x_o_top)) : CT l y_La_pop prog_4_method_8_code 1 (some .int) { frames := 0, cells := 0, slots := 0, locals := 0 } D dA [.ref a_o] [O_La a_o a_o_code x_o_length a_o_stack x_o_top, A_I dA a_o_stack 256 x_o_stack] (some (.int r0)) (fun _ : Unit => [O_La a_o a_o_code x_o_length a_o_stack o_x_o_top, A_I dA a_o_stack 256 x_o_stack]) := by
  refine ct_intro "OneLamp$Law" rfl (by decide +kernel) (Nat.le_of_ble_eq_true rfl) [(0, .ref a_o)] rfl (fun _ C => ?_)
  unfold f_La_pop at hf
  refine g_aload_n (pc' := 1) C 0 d_La_pop_0 rfl rfl ?_
  refine g_get (pc' := 4) C kf_La 3 mw_1_118 d_La_pop_1 rfl 0 rfl (by decide) rfl ?_
  refine g_if_le (pc' := 7) (tgt := 17) C d_La_pop_4 rfl rfl (fun h => ?_) (fun h => ?_)
  · replace hf := g_ip h hf
    refine g_iconst (pc' := 18) (v := 0) C d_La_pop_17 rfl rfl ?_
    replace hf := g_o2 hf; obtain ⟨h1, hf⟩ := hf; subst h1
    replace hf := Option.some.inj hf; subst hf
    exact g_iret C d_La_pop_18 () rfl
  · replace hf := g_in h hf
    refine g_aload_n (pc' := 8) C 0 d_La_pop_7 rfl rfl ?_
    refine g_get (pc' := 11) C kf_La 3 mw_1_118 d_La_pop_8 rfl 0 rfl (by decide) rfl ?_
    refine g_sipush (pc' := 14) (v := 256) C d_La_pop_11 rfl rfl ?_
    refine g_icmp_le (pc' := 17) (tgt := 19) C d_La_pop_14 rfl rfl (fun h => ?_) (fun h => ?_)
    · replace hf := g_ip h hf
      refine g_aload_n (pc' := 20) C 0 d_La_pop_19 rfl rfl ?_
      refine g_dup (pc' := 21) C d_La_pop_20 rfl rfl ?_
      refine g_get (pc' := 24) C kf_La 3 mw_1_118 d_La_pop_21 rfl 0 rfl (by decide) rfl ?_
      refine g_iconst (pc' := 25) (v := 1) C d_La_pop_24 rfl rfl ?_
      refine g_isub (pc' := 26) C d_La_pop_25 rfl ?_
      refine g_put (pc' := 29) (ws' := [O_La a_o a_o_code x_o_length a_o_stack (x_o_top - (1 : Int32)), A_I dA a_o_stack 256 x_o_stack]) C kf_La 3 mw_1_118 d_La_pop_26 rfl 0 rfl (by decide) rfl rfl rfl (Nat.le_of_ble_eq_true rfl) rfl ?_
      refine g_aload_n (pc' := 30) C 0 d_La_pop_29 rfl rfl ?_
      refine g_get (pc' := 33) C kf_La 2 mw_1_117 d_La_pop_30 rfl 0 rfl (by decide) rfl ?_
      refine g_aload_n (pc' := 34) C 0 d_La_pop_33 rfl rfl ?_
      refine g_get (pc' := 37) C kf_La 3 mw_1_118 d_La_pop_34 rfl 0 rfl (by decide) rfl ?_
      have hb := g_ck hf
      replace hf := g_in hb hf
      refine g_iald (pc' := 38) C d_La_pop_37 rfl 1 rfl hb ?_
      replace hf := g_o2 hf; obtain ⟨h1, hf⟩ := hf; subst h1
      replace hf := Option.some.inj hf; subst hf
      exact g_iret C d_La_pop_38 () rfl
    · replace hf := g_in h hf
      refine g_iconst (pc' := 18) (v := 0) C d_La_pop_17 rfl rfl ?_
      replace hf := g_o2 hf; obtain ⟨h1, hf⟩ := hf; subst h1
      replace hf := Option.some.inj hf; subst hf
      exact g_iret C d_La_pop_18 () rfl
def y_La_worked : MethodName := ⟨"OneLamp$Law", "worked", "(III)I"⟩
theorem yy_La_worked : YS y_La_worked prog_4_method_5_code 3 (some .int) 3 := ⟨mw_3_11, mw_1_6, mw_3_10, by decide +kernel, by decide +kernel, by decide +kernel⟩
theorem d_La_worked_0 : decode prog_4_method_5_code 0 = .ok (.iload_n 0, 1) := by decide +kernel
theorem d_La_worked_1 : decode prog_4_method_5_code 1 = .ok (.lookupswitch 217 #[(-126, 214), (-124, 107), (-62, 157), (-61, 146), (-60, 135), (-47, 180), (-45, 172), (-43, 168), (-42, 176), (-38, 121), (-37, 192), (-33, 204)], 107) := by decide +kernel
theorem d_La_worked_108 : decode prog_4_method_5_code 108 = .ok (.iload_n 1, 1) := by decide +kernel
theorem d_La_worked_109 : decode prog_4_method_5_code 109 = .ok (.ifCond .ne 7, 3) := by decide +kernel
theorem d_La_worked_112 : decode prog_4_method_5_code 112 = .ok (.iload_n 2, 1) := by decide +kernel
theorem d_La_worked_113 : decode prog_4_method_5_code 113 = .ok (.ifCond .eq 7, 3) := by decide +kernel
theorem d_La_worked_116 : decode prog_4_method_5_code 116 = .ok (.iconst 1, 1) := by decide +kernel
theorem d_La_worked_117 : decode prog_4_method_5_code 117 = .ok (.goto 4, 3) := by decide +kernel
theorem d_La_worked_120 : decode prog_4_method_5_code 120 = .ok (.iconst 0, 1) := by decide +kernel
theorem d_La_worked_121 : decode prog_4_method_5_code 121 = .ok (.ireturn, 1) := by decide +kernel
theorem d_La_worked_122 : decode prog_4_method_5_code 122 = .ok (.iload_n 1, 1) := by decide +kernel
theorem d_La_worked_123 : decode prog_4_method_5_code 123 = .ok (.ifCond .eq 11, 3) := by decide +kernel
theorem d_La_worked_126 : decode prog_4_method_5_code 126 = .ok (.iload_n 2, 1) := by decide +kernel
theorem d_La_worked_127 : decode prog_4_method_5_code 127 = .ok (.ifCond .eq 7, 3) := by decide +kernel
theorem d_La_worked_130 : decode prog_4_method_5_code 130 = .ok (.iconst 1, 1) := by decide +kernel
theorem d_La_worked_131 : decode prog_4_method_5_code 131 = .ok (.goto 4, 3) := by decide +kernel
theorem d_La_worked_134 : decode prog_4_method_5_code 134 = .ok (.iconst 0, 1) := by decide +kernel
theorem d_La_worked_135 : decode prog_4_method_5_code 135 = .ok (.ireturn, 1) := by decide +kernel
theorem d_La_worked_136 : decode prog_4_method_5_code 136 = .ok (.iload_n 1, 1) := by decide +kernel
theorem d_La_worked_137 : decode prog_4_method_5_code 137 = .ok (.iload_n 2, 1) := by decide +kernel
theorem d_La_worked_138 : decode prog_4_method_5_code 138 = .ok (.if_icmp .ge 7, 3) := by decide +kernel
theorem d_La_worked_141 : decode prog_4_method_5_code 141 = .ok (.iconst 1, 1) := by decide +kernel
theorem d_La_worked_142 : decode prog_4_method_5_code 142 = .ok (.goto 4, 3) := by decide +kernel
theorem d_La_worked_145 : decode prog_4_method_5_code 145 = .ok (.iconst 0, 1) := by decide +kernel
theorem d_La_worked_146 : decode prog_4_method_5_code 146 = .ok (.ireturn, 1) := by decide +kernel
theorem d_La_worked_147 : decode prog_4_method_5_code 147 = .ok (.iload_n 1, 1) := by decide +kernel
theorem d_La_worked_148 : decode prog_4_method_5_code 148 = .ok (.iload_n 2, 1) := by decide +kernel
theorem d_La_worked_149 : decode prog_4_method_5_code 149 = .ok (.if_icmp .ne 7, 3) := by decide +kernel
theorem d_La_worked_152 : decode prog_4_method_5_code 152 = .ok (.iconst 1, 1) := by decide +kernel
theorem d_La_worked_153 : decode prog_4_method_5_code 153 = .ok (.goto 4, 3) := by decide +kernel
theorem d_La_worked_156 : decode prog_4_method_5_code 156 = .ok (.iconst 0, 1) := by decide +kernel
theorem d_La_worked_157 : decode prog_4_method_5_code 157 = .ok (.ireturn, 1) := by decide +kernel
theorem d_La_worked_158 : decode prog_4_method_5_code 158 = .ok (.iload_n 1, 1) := by decide +kernel
theorem d_La_worked_159 : decode prog_4_method_5_code 159 = .ok (.iload_n 2, 1) := by decide +kernel
theorem d_La_worked_160 : decode prog_4_method_5_code 160 = .ok (.if_icmp .le 7, 3) := by decide +kernel
theorem d_La_worked_163 : decode prog_4_method_5_code 163 = .ok (.iconst 1, 1) := by decide +kernel
theorem d_La_worked_164 : decode prog_4_method_5_code 164 = .ok (.goto 4, 3) := by decide +kernel
theorem d_La_worked_167 : decode prog_4_method_5_code 167 = .ok (.iconst 0, 1) := by decide +kernel
theorem d_La_worked_168 : decode prog_4_method_5_code 168 = .ok (.ireturn, 1) := by decide +kernel
theorem d_La_worked_169 : decode prog_4_method_5_code 169 = .ok (.iload_n 1, 1) := by decide +kernel
theorem d_La_worked_170 : decode prog_4_method_5_code 170 = .ok (.iload_n 2, 1) := by decide +kernel
theorem d_La_worked_171 : decode prog_4_method_5_code 171 = .ok (.iadd, 1) := by decide +kernel
theorem d_La_worked_172 : decode prog_4_method_5_code 172 = .ok (.ireturn, 1) := by decide +kernel
theorem d_La_worked_173 : decode prog_4_method_5_code 173 = .ok (.iload_n 1, 1) := by decide +kernel
theorem d_La_worked_174 : decode prog_4_method_5_code 174 = .ok (.iload_n 2, 1) := by decide +kernel
theorem d_La_worked_175 : decode prog_4_method_5_code 175 = .ok (.isub, 1) := by decide +kernel
theorem d_La_worked_176 : decode prog_4_method_5_code 176 = .ok (.ireturn, 1) := by decide +kernel
theorem d_La_worked_177 : decode prog_4_method_5_code 177 = .ok (.iload_n 1, 1) := by decide +kernel
theorem d_La_worked_178 : decode prog_4_method_5_code 178 = .ok (.iload_n 2, 1) := by decide +kernel
theorem d_La_worked_179 : decode prog_4_method_5_code 179 = .ok (.imul, 1) := by decide +kernel
theorem d_La_worked_180 : decode prog_4_method_5_code 180 = .ok (.ireturn, 1) := by decide +kernel
theorem d_La_worked_181 : decode prog_4_method_5_code 181 = .ok (.iload_n 2, 1) := by decide +kernel
theorem d_La_worked_182 : decode prog_4_method_5_code 182 = .ok (.ifCond .ne 7, 3) := by decide +kernel
theorem d_La_worked_185 : decode prog_4_method_5_code 185 = .ok (.iconst 0, 1) := by decide +kernel
theorem d_La_worked_186 : decode prog_4_method_5_code 186 = .ok (.goto 6, 3) := by decide +kernel
theorem d_La_worked_189 : decode prog_4_method_5_code 189 = .ok (.iload_n 1, 1) := by decide +kernel
theorem d_La_worked_190 : decode prog_4_method_5_code 190 = .ok (.iload_n 2, 1) := by decide +kernel
theorem d_La_worked_191 : decode prog_4_method_5_code 191 = .ok (.idiv, 1) := by decide +kernel
theorem d_La_worked_192 : decode prog_4_method_5_code 192 = .ok (.ireturn, 1) := by decide +kernel
theorem d_La_worked_193 : decode prog_4_method_5_code 193 = .ok (.iload_n 2, 1) := by decide +kernel
theorem d_La_worked_194 : decode prog_4_method_5_code 194 = .ok (.ifCond .ne 7, 3) := by decide +kernel
theorem d_La_worked_197 : decode prog_4_method_5_code 197 = .ok (.iconst 0, 1) := by decide +kernel
theorem d_La_worked_198 : decode prog_4_method_5_code 198 = .ok (.goto 6, 3) := by decide +kernel
theorem d_La_worked_201 : decode prog_4_method_5_code 201 = .ok (.iload_n 1, 1) := by decide +kernel
theorem d_La_worked_202 : decode prog_4_method_5_code 202 = .ok (.iload_n 2, 1) := by decide +kernel
theorem d_La_worked_203 : decode prog_4_method_5_code 203 = .ok (.irem, 1) := by decide +kernel
theorem d_La_worked_204 : decode prog_4_method_5_code 204 = .ok (.ireturn, 1) := by decide +kernel
theorem d_La_worked_205 : decode prog_4_method_5_code 205 = .ok (.iload_n 2, 1) := by decide +kernel
theorem d_La_worked_206 : decode prog_4_method_5_code 206 = .ok (.ifCond .ne 7, 3) := by decide +kernel
theorem d_La_worked_209 : decode prog_4_method_5_code 209 = .ok (.iconst 1, 1) := by decide +kernel
theorem d_La_worked_210 : decode prog_4_method_5_code 210 = .ok (.goto 4, 3) := by decide +kernel
theorem d_La_worked_213 : decode prog_4_method_5_code 213 = .ok (.iconst 0, 1) := by decide +kernel
theorem d_La_worked_214 : decode prog_4_method_5_code 214 = .ok (.ireturn, 1) := by decide +kernel
theorem d_La_worked_215 : decode prog_4_method_5_code 215 = .ok (.iload_n 2, 1) := by decide +kernel
theorem d_La_worked_216 : decode prog_4_method_5_code 216 = .ok (.ineg, 1) := by decide +kernel
theorem d_La_worked_217 : decode prog_4_method_5_code 217 = .ok (.ireturn, 1) := by decide +kernel
theorem d_La_worked_218 : decode prog_4_method_5_code 218 = .ok (.iconst 0, 1) := by decide +kernel
theorem d_La_worked_219 : decode prog_4_method_5_code 219 = .ok (.ireturn, 1) := by decide +kernel
def f_La_worked  (p0 : Int32) (p1 : Int32) (p2 : Int32) : Option (Int32) :=
  if p0 = (-126) then
    (some ((-p2)))
  else
  (if p0 = (-124) then
    (if p1 = 0 then
      (if p2 = 0 then
        (some ((0 : Int32)))
      else
        (some ((1 : Int32))))
    else
      (some ((1 : Int32))))
  else
  (if p0 = (-62) then
    (if p1 ≤ p2 then
      (some ((0 : Int32)))
    else
      (some ((1 : Int32))))
  else
  (if p0 = (-61) then
    (if p1 = p2 then
      (some ((1 : Int32)))
    else
      (some ((0 : Int32))))
  else
  (if p0 = (-60) then
    (if p2 ≤ p1 then
      (some ((0 : Int32)))
    else
      (some ((1 : Int32))))
  else
  (if p0 = (-47) then
    (if p2 = 0 then
      (some ((0 : Int32)))
    else
      (if p2 = 0 then none else
      some ((p1 / p2))))
  else
  (if p0 = (-45) then
    (some ((p1 - p2)))
  else
  (if p0 = (-43) then
    (some ((p1 + p2)))
  else
  (if p0 = (-42) then
    (some ((p1 * p2)))
  else
  (if p0 = (-38) then
    (if p1 = 0 then
      (some ((0 : Int32)))
    else
      (if p2 = 0 then
        (some ((0 : Int32)))
      else
        (some ((1 : Int32)))))
  else
  (if p0 = (-37) then
    (if p2 = 0 then
      (some ((0 : Int32)))
    else
      (if p2 = 0 then none else
      some ((p1 - p1 / p2 * p2))))
  else
  (if p0 = (-33) then
    (if p2 = 0 then
      (some ((1 : Int32)))
    else
      (some ((0 : Int32))))
  else
  (some ((0 : Int32))))))))))))))
set_option maxRecDepth 20000 in
theorem c_La_worked {l : Launch} {D : va_G} {dA : Nat → ClassId}   {p0 : Int32} {p1 : Int32} {p2 : Int32} {r0 : Int32}   (hf : f_La_worked  p0 p1 p2 = some r0) : CT l y_La_worked prog_4_method_5_code 3 (some .int) { frames := 0, cells := 0, slots := 0, locals := 0 } D dA [.int p0, .int p1, .int p2] [] (some (.int r0)) (fun _ : Unit => []) := by
  refine ct_intro "OneLamp$Law" rfl (by decide +kernel) (Nat.le_of_ble_eq_true rfl) [(0, .int p0), (1, .int p1), (2, .int p2)] rfl (fun _ C => ?_)
  unfold f_La_worked at hf
  refine g_iload_n (pc' := 1) C 0 d_La_worked_0 rfl rfl ?_
  by_cases q0 : p0 = (-126)
  · replace hf := g_ip q0 hf
    have e : (p0 : Int32).toInt = (-126) := by rw [q0]; rfl
    refine g_lookup (off := 214) (tgt := 215) C d_La_worked_1 (by decide) (by rw [e]; rfl) rfl ?_
    refine g_iload_n (pc' := 216) C 2 d_La_worked_215 rfl rfl ?_
    refine g_ineg (pc' := 217) C d_La_worked_216 rfl ?_
    replace hf := Option.some.inj hf; subst hf
    exact g_iret C d_La_worked_217 () rfl
  replace hf := g_in q0 hf
  by_cases q1 : p0 = (-124)
  · replace hf := g_ip q1 hf
    have e : (p0 : Int32).toInt = (-124) := by rw [q1]; rfl
    refine g_lookup (off := 107) (tgt := 108) C d_La_worked_1 (by decide) (by rw [e]; rfl) rfl ?_
    refine g_iload_n (pc' := 109) C 1 d_La_worked_108 rfl rfl ?_
    refine g_if_ne (pc' := 112) (tgt := 116) C d_La_worked_109 rfl rfl (fun h => ?_) (fun h => ?_)
    · replace hf := g_in h hf
      refine g_iconst (pc' := 117) (v := 1) C d_La_worked_116 rfl rfl ?_
      refine g_goto (tgt := 121) C d_La_worked_117 rfl ?_
      replace hf := Option.some.inj hf; subst hf
      exact g_iret C d_La_worked_121 () rfl
    · replace hf := g_ip h hf
      refine g_iload_n (pc' := 113) C 2 d_La_worked_112 rfl rfl ?_
      refine g_if_eq (pc' := 116) (tgt := 120) C d_La_worked_113 rfl rfl (fun h => ?_) (fun h => ?_)
      · replace hf := g_ip h hf
        refine g_iconst (pc' := 121) (v := 0) C d_La_worked_120 rfl rfl ?_
        replace hf := Option.some.inj hf; subst hf
        exact g_iret C d_La_worked_121 () rfl
      · replace hf := g_in h hf
        refine g_iconst (pc' := 117) (v := 1) C d_La_worked_116 rfl rfl ?_
        refine g_goto (tgt := 121) C d_La_worked_117 rfl ?_
        replace hf := Option.some.inj hf; subst hf
        exact g_iret C d_La_worked_121 () rfl
  replace hf := g_in q1 hf
  by_cases q2 : p0 = (-62)
  · replace hf := g_ip q2 hf
    have e : (p0 : Int32).toInt = (-62) := by rw [q2]; rfl
    refine g_lookup (off := 157) (tgt := 158) C d_La_worked_1 (by decide) (by rw [e]; rfl) rfl ?_
    refine g_iload_n (pc' := 159) C 1 d_La_worked_158 rfl rfl ?_
    refine g_iload_n (pc' := 160) C 2 d_La_worked_159 rfl rfl ?_
    refine g_icmp_le (pc' := 163) (tgt := 167) C d_La_worked_160 rfl rfl (fun h => ?_) (fun h => ?_)
    · replace hf := g_ip h hf
      refine g_iconst (pc' := 168) (v := 0) C d_La_worked_167 rfl rfl ?_
      replace hf := Option.some.inj hf; subst hf
      exact g_iret C d_La_worked_168 () rfl
    · replace hf := g_in h hf
      refine g_iconst (pc' := 164) (v := 1) C d_La_worked_163 rfl rfl ?_
      refine g_goto (tgt := 168) C d_La_worked_164 rfl ?_
      replace hf := Option.some.inj hf; subst hf
      exact g_iret C d_La_worked_168 () rfl
  replace hf := g_in q2 hf
  by_cases q3 : p0 = (-61)
  · replace hf := g_ip q3 hf
    have e : (p0 : Int32).toInt = (-61) := by rw [q3]; rfl
    refine g_lookup (off := 146) (tgt := 147) C d_La_worked_1 (by decide) (by rw [e]; rfl) rfl ?_
    refine g_iload_n (pc' := 148) C 1 d_La_worked_147 rfl rfl ?_
    refine g_iload_n (pc' := 149) C 2 d_La_worked_148 rfl rfl ?_
    refine g_icmp_ne (pc' := 152) (tgt := 156) C d_La_worked_149 rfl rfl (fun h => ?_) (fun h => ?_)
    · replace hf := g_in h hf
      refine g_iconst (pc' := 157) (v := 0) C d_La_worked_156 rfl rfl ?_
      replace hf := Option.some.inj hf; subst hf
      exact g_iret C d_La_worked_157 () rfl
    · replace hf := g_ip h hf
      refine g_iconst (pc' := 153) (v := 1) C d_La_worked_152 rfl rfl ?_
      refine g_goto (tgt := 157) C d_La_worked_153 rfl ?_
      replace hf := Option.some.inj hf; subst hf
      exact g_iret C d_La_worked_157 () rfl
  replace hf := g_in q3 hf
  by_cases q4 : p0 = (-60)
  · replace hf := g_ip q4 hf
    have e : (p0 : Int32).toInt = (-60) := by rw [q4]; rfl
    refine g_lookup (off := 135) (tgt := 136) C d_La_worked_1 (by decide) (by rw [e]; rfl) rfl ?_
    refine g_iload_n (pc' := 137) C 1 d_La_worked_136 rfl rfl ?_
    refine g_iload_n (pc' := 138) C 2 d_La_worked_137 rfl rfl ?_
    refine g_icmp_ge (pc' := 141) (tgt := 145) C d_La_worked_138 rfl rfl (fun h => ?_) (fun h => ?_)
    · replace hf := g_ip h hf
      refine g_iconst (pc' := 146) (v := 0) C d_La_worked_145 rfl rfl ?_
      replace hf := Option.some.inj hf; subst hf
      exact g_iret C d_La_worked_146 () rfl
    · replace hf := g_in h hf
      refine g_iconst (pc' := 142) (v := 1) C d_La_worked_141 rfl rfl ?_
      refine g_goto (tgt := 146) C d_La_worked_142 rfl ?_
      replace hf := Option.some.inj hf; subst hf
      exact g_iret C d_La_worked_146 () rfl
  replace hf := g_in q4 hf
  by_cases q5 : p0 = (-47)
  · replace hf := g_ip q5 hf
    have e : (p0 : Int32).toInt = (-47) := by rw [q5]; rfl
    refine g_lookup (off := 180) (tgt := 181) C d_La_worked_1 (by decide) (by rw [e]; rfl) rfl ?_
    refine g_iload_n (pc' := 182) C 2 d_La_worked_181 rfl rfl ?_
    refine g_if_ne (pc' := 185) (tgt := 189) C d_La_worked_182 rfl rfl (fun h => ?_) (fun h => ?_)
    · replace hf := g_in h hf
      refine g_iload_n (pc' := 190) C 1 d_La_worked_189 rfl rfl ?_
      refine g_iload_n (pc' := 191) C 2 d_La_worked_190 rfl rfl ?_
      have hb := g_ck hf
      replace hf := g_in hb hf
      refine g_idiv (pc' := 192) C d_La_worked_191 rfl hb ?_
      replace hf := Option.some.inj hf; subst hf
      exact g_iret C d_La_worked_192 () rfl
    · replace hf := g_ip h hf
      refine g_iconst (pc' := 186) (v := 0) C d_La_worked_185 rfl rfl ?_
      refine g_goto (tgt := 192) C d_La_worked_186 rfl ?_
      replace hf := Option.some.inj hf; subst hf
      exact g_iret C d_La_worked_192 () rfl
  replace hf := g_in q5 hf
  by_cases q6 : p0 = (-45)
  · replace hf := g_ip q6 hf
    have e : (p0 : Int32).toInt = (-45) := by rw [q6]; rfl
    refine g_lookup (off := 172) (tgt := 173) C d_La_worked_1 (by decide) (by rw [e]; rfl) rfl ?_
    refine g_iload_n (pc' := 174) C 1 d_La_worked_173 rfl rfl ?_
    refine g_iload_n (pc' := 175) C 2 d_La_worked_174 rfl rfl ?_
    refine g_isub (pc' := 176) C d_La_worked_175 rfl ?_
    replace hf := Option.some.inj hf; subst hf
    exact g_iret C d_La_worked_176 () rfl
  replace hf := g_in q6 hf
  by_cases q7 : p0 = (-43)
  · replace hf := g_ip q7 hf
    have e : (p0 : Int32).toInt = (-43) := by rw [q7]; rfl
    refine g_lookup (off := 168) (tgt := 169) C d_La_worked_1 (by decide) (by rw [e]; rfl) rfl ?_
    refine g_iload_n (pc' := 170) C 1 d_La_worked_169 rfl rfl ?_
    refine g_iload_n (pc' := 171) C 2 d_La_worked_170 rfl rfl ?_
    refine g_iadd (pc' := 172) C d_La_worked_171 rfl ?_
    replace hf := Option.some.inj hf; subst hf
    exact g_iret C d_La_worked_172 () rfl
  replace hf := g_in q7 hf
  by_cases q8 : p0 = (-42)
  · replace hf := g_ip q8 hf
    have e : (p0 : Int32).toInt = (-42) := by rw [q8]; rfl
    refine g_lookup (off := 176) (tgt := 177) C d_La_worked_1 (by decide) (by rw [e]; rfl) rfl ?_
    refine g_iload_n (pc' := 178) C 1 d_La_worked_177 rfl rfl ?_
    refine g_iload_n (pc' := 179) C 2 d_La_worked_178 rfl rfl ?_
    refine g_imul (pc' := 180) C d_La_worked_179 rfl ?_
    replace hf := Option.some.inj hf; subst hf
    exact g_iret C d_La_worked_180 () rfl
  replace hf := g_in q8 hf
  by_cases q9 : p0 = (-38)
  · replace hf := g_ip q9 hf
    have e : (p0 : Int32).toInt = (-38) := by rw [q9]; rfl
    refine g_lookup (off := 121) (tgt := 122) C d_La_worked_1 (by decide) (by rw [e]; rfl) rfl ?_
    refine g_iload_n (pc' := 123) C 1 d_La_worked_122 rfl rfl ?_
    refine g_if_eq (pc' := 126) (tgt := 134) C d_La_worked_123 rfl rfl (fun h => ?_) (fun h => ?_)
    · replace hf := g_ip h hf
      refine g_iconst (pc' := 135) (v := 0) C d_La_worked_134 rfl rfl ?_
      replace hf := Option.some.inj hf; subst hf
      exact g_iret C d_La_worked_135 () rfl
    · replace hf := g_in h hf
      refine g_iload_n (pc' := 127) C 2 d_La_worked_126 rfl rfl ?_
      refine g_if_eq (pc' := 130) (tgt := 134) C d_La_worked_127 rfl rfl (fun h => ?_) (fun h => ?_)
      · replace hf := g_ip h hf
        refine g_iconst (pc' := 135) (v := 0) C d_La_worked_134 rfl rfl ?_
        replace hf := Option.some.inj hf; subst hf
        exact g_iret C d_La_worked_135 () rfl
      · replace hf := g_in h hf
        refine g_iconst (pc' := 131) (v := 1) C d_La_worked_130 rfl rfl ?_
        refine g_goto (tgt := 135) C d_La_worked_131 rfl ?_
        replace hf := Option.some.inj hf; subst hf
        exact g_iret C d_La_worked_135 () rfl
  replace hf := g_in q9 hf
  by_cases q10 : p0 = (-37)
  · replace hf := g_ip q10 hf
    have e : (p0 : Int32).toInt = (-37) := by rw [q10]; rfl
    refine g_lookup (off := 192) (tgt := 193) C d_La_worked_1 (by decide) (by rw [e]; rfl) rfl ?_
    refine g_iload_n (pc' := 194) C 2 d_La_worked_193 rfl rfl ?_
    refine g_if_ne (pc' := 197) (tgt := 201) C d_La_worked_194 rfl rfl (fun h => ?_) (fun h => ?_)
    · replace hf := g_in h hf
      refine g_iload_n (pc' := 202) C 1 d_La_worked_201 rfl rfl ?_
      refine g_iload_n (pc' := 203) C 2 d_La_worked_202 rfl rfl ?_
      have hb := g_ck hf
      replace hf := g_in hb hf
      refine g_irem (pc' := 204) C d_La_worked_203 rfl hb ?_
      replace hf := Option.some.inj hf; subst hf
      exact g_iret C d_La_worked_204 () rfl
    · replace hf := g_ip h hf
      refine g_iconst (pc' := 198) (v := 0) C d_La_worked_197 rfl rfl ?_
      refine g_goto (tgt := 204) C d_La_worked_198 rfl ?_
      replace hf := Option.some.inj hf; subst hf
      exact g_iret C d_La_worked_204 () rfl
  replace hf := g_in q10 hf
  by_cases q11 : p0 = (-33)
  · replace hf := g_ip q11 hf
    have e : (p0 : Int32).toInt = (-33) := by rw [q11]; rfl
    refine g_lookup (off := 204) (tgt := 205) C d_La_worked_1 (by decide) (by rw [e]; rfl) rfl ?_
    refine g_iload_n (pc' := 206) C 2 d_La_worked_205 rfl rfl ?_
    refine g_if_ne (pc' := 209) (tgt := 213) C d_La_worked_206 rfl rfl (fun h => ?_) (fun h => ?_)
    · replace hf := g_in h hf
      refine g_iconst (pc' := 214) (v := 0) C d_La_worked_213 rfl rfl ?_
      replace hf := Option.some.inj hf; subst hf
      exact g_iret C d_La_worked_214 () rfl
    · replace hf := g_ip h hf
      refine g_iconst (pc' := 210) (v := 1) C d_La_worked_209 rfl rfl ?_
      refine g_goto (tgt := 214) C d_La_worked_210 rfl ?_
      replace hf := Option.some.inj hf; subst hf
      exact g_iret C d_La_worked_214 () rfl
  replace hf := g_in q11 hf
  refine g_lookup (off := 217) (tgt := 218) C d_La_worked_1 (by decide) (by show Op.lookupswitch.offset [((-126), 214), ((-124), 107), ((-62), 157), ((-61), 146), ((-60), 135), ((-47), 180), ((-45), 172), ((-43), 168), ((-42), 176), ((-38), 121), ((-37), 192), ((-33), 204)] 217 (p0 : Int32).toInt = 217; rw [lv_osw (a := (-126)) q0 rfl, lv_osw (a := (-124)) q1 rfl, lv_osw (a := (-62)) q2 rfl, lv_osw (a := (-61)) q3 rfl, lv_osw (a := (-60)) q4 rfl, lv_osw (a := (-47)) q5 rfl, lv_osw (a := (-45)) q6 rfl, lv_osw (a := (-43)) q7 rfl, lv_osw (a := (-42)) q8 rfl, lv_osw (a := (-38)) q9 rfl, lv_osw (a := (-37)) q10 rfl, lv_osw (a := (-33)) q11 rfl]; rfl) rfl ?_
  refine g_iconst (pc' := 219) (v := 0) C d_La_worked_218 rfl rfl ?_
  replace hf := Option.some.inj hf; subst hf
  exact g_iret C d_La_worked_219 () rfl
def y_La_highestOf : MethodName := ⟨"OneLamp$Law", "highestOf", "(I)I"⟩
theorem yy_La_highestOf : YS y_La_highestOf prog_4_method_6_code 2 (some .int) 1 := ⟨mw_3_23, mw_1_6, mw_3_22, by decide +kernel, by decide +kernel, by decide +kernel⟩
theorem d_La_highestOf_0 : decode prog_4_method_6_code 0 = .ok (.bipush 10, 2) := by decide +kernel
theorem d_La_highestOf_2 : decode prog_4_method_6_code 2 = .ok (.istore_n 1, 1) := by decide +kernel
theorem d_La_highestOf_3 : decode prog_4_method_6_code 3 = .ok (.iload_n 1, 1) := by decide +kernel
theorem d_La_highestOf_4 : decode prog_4_method_6_code 4 = .ok (.ifCond .le 22, 3) := by decide +kernel
theorem d_La_highestOf_7 : decode prog_4_method_6_code 7 = .ok (.iload_n 0, 1) := by decide +kernel
theorem d_La_highestOf_8 : decode prog_4_method_6_code 8 = .ok (.iload_n 1, 1) := by decide +kernel
theorem d_La_highestOf_9 : decode prog_4_method_6_code 9 = .ok (.iconst 1, 1) := by decide +kernel
theorem d_La_highestOf_10 : decode prog_4_method_6_code 10 = .ok (.isub, 1) := by decide +kernel
theorem d_La_highestOf_11 : decode prog_4_method_6_code 11 = .ok (.ishr, 1) := by decide +kernel
theorem d_La_highestOf_12 : decode prog_4_method_6_code 12 = .ok (.iconst 1, 1) := by decide +kernel
theorem d_La_highestOf_13 : decode prog_4_method_6_code 13 = .ok (.iand, 1) := by decide +kernel
theorem d_La_highestOf_14 : decode prog_4_method_6_code 14 = .ok (.iconst 1, 1) := by decide +kernel
theorem d_La_highestOf_15 : decode prog_4_method_6_code 15 = .ok (.if_icmp .ne 5, 3) := by decide +kernel
theorem d_La_highestOf_18 : decode prog_4_method_6_code 18 = .ok (.iload_n 1, 1) := by decide +kernel
theorem d_La_highestOf_19 : decode prog_4_method_6_code 19 = .ok (.ireturn, 1) := by decide +kernel
theorem d_La_highestOf_20 : decode prog_4_method_6_code 20 = .ok (.iinc 1 (-1), 3) := by decide +kernel
theorem d_La_highestOf_23 : decode prog_4_method_6_code 23 = .ok (.goto (-20), 3) := by decide +kernel
theorem d_La_highestOf_26 : decode prog_4_method_6_code 26 = .ok (.iconst 0, 1) := by decide +kernel
theorem d_La_highestOf_27 : decode prog_4_method_6_code 27 = .ok (.ireturn, 1) := by decide +kernel
def f_La_highestOf_L3   : Nat → Int32 → Int32 → Option (Int32)
  | 0, _, _ => none
  | n + 1, v0, v1 =>
    if v1 ≤ 0 then
      (some ((0 : Int32)))
    else
      (if ((v0 >>> ((v1 - (1 : Int32)) &&& 31)) &&& (1 : Int32)) = (1 : Int32) then
        (some (v1))
      else
        (f_La_highestOf_L3  n v0 (v1 + (-1))))
set_option maxRecDepth 20000 in
theorem w_La_highestOf_L3 {p : Program} {l : Launch} {e : Env} {s : State} {m : MethodId} {args : Array Value} {below : List Frame} {meth : Method} {c : Code} {D : va_G} {dA : Nat → ClassId} {A : Nat → Prop} (C : GC p s m args meth c prog_4_method_6_code 2 "OneLamp$Law" (some .int) D dA A)   {r0 : Int32}    : ∀ (n : Nat) (v0 : Int32) (v1 : Int32), f_La_highestOf_L3   n v0 v1 = some r0 → GG p l e { frames := 0, cells := 0, slots := 0, locals := 0 } s m args below meth c 2 D A 0 0 (MQ below (cQ D A (some (.int r0)) (fun _ : Unit => [])) args s 0 0 A) 3 [(0, .int v0), (1, .int v1)] [] [] := by
  intro n
  induction n with
  | zero =>
    intro v0 v1 hf
    cases hf
  | succ n ih =>
    intro v0 v1 hf
    unfold f_La_highestOf_L3 at hf
    refine g_iload_n (pc' := 4) C 1 d_La_highestOf_3 rfl rfl ?_
    refine g_if_le (pc' := 7) (tgt := 26) C d_La_highestOf_4 rfl rfl (fun h => ?_) (fun h => ?_)
    · replace hf := g_ip h hf
      refine g_iconst (pc' := 27) (v := 0) C d_La_highestOf_26 rfl rfl ?_
      replace hf := Option.some.inj hf; subst hf
      exact g_iret C d_La_highestOf_27 () rfl
    · replace hf := g_in h hf
      refine g_iload_n (pc' := 8) C 0 d_La_highestOf_7 rfl rfl ?_
      refine g_iload_n (pc' := 9) C 1 d_La_highestOf_8 rfl rfl ?_
      refine g_iconst (pc' := 10) (v := 1) C d_La_highestOf_9 rfl rfl ?_
      refine g_isub (pc' := 11) C d_La_highestOf_10 rfl ?_
      refine g_ishr (pc' := 12) C d_La_highestOf_11 rfl ?_
      refine g_iconst (pc' := 13) (v := 1) C d_La_highestOf_12 rfl rfl ?_
      refine g_iand (pc' := 14) C d_La_highestOf_13 rfl ?_
      refine g_iconst (pc' := 15) (v := 1) C d_La_highestOf_14 rfl rfl ?_
      refine g_icmp_ne (pc' := 18) (tgt := 20) C d_La_highestOf_15 rfl rfl (fun h => ?_) (fun h => ?_)
      · replace hf := g_in h hf
        refine g_iinc (pc' := 23) (j := 1) (v := (v1 + (-1))) (lv' := [(1, .int (v1 + (-1))), (0, .int v0)]) C d_La_highestOf_20 rfl rfl rfl (by decide) rfl ?_
        refine g_goto (tgt := 3) C d_La_highestOf_23 rfl ?_
        refine g_lv (lv' := [(0, .int v0), (1, .int (v1 + (-1)))]) [1, 0] rfl ?_
        exact ih v0 (v1 + (-1)) hf
      · replace hf := g_ip h hf
        refine g_iload_n (pc' := 19) C 1 d_La_highestOf_18 rfl rfl ?_
        replace hf := Option.some.inj hf; subst hf
        exact g_iret C d_La_highestOf_19 () rfl
def f_La_highestOf  (p0 : Int32) : Option (Int32) :=
  f_La_highestOf_L3  3000 p0 (10 : Int32)
set_option maxRecDepth 20000 in
theorem c_La_highestOf {l : Launch} {D : va_G} {dA : Nat → ClassId}   {p0 : Int32} {r0 : Int32}   (hf : f_La_highestOf  p0 = some r0) : CT l y_La_highestOf prog_4_method_6_code 2 (some .int) { frames := 0, cells := 0, slots := 0, locals := 0 } D dA [.int p0] [] (some (.int r0)) (fun _ : Unit => []) := by
  refine ct_intro "OneLamp$Law" rfl (by decide +kernel) (Nat.le_of_ble_eq_true rfl) [(0, .int p0)] rfl (fun _ C => ?_)
  unfold f_La_highestOf at hf
  refine g_bipush (pc' := 2) (v := 10) C d_La_highestOf_0 rfl rfl ?_
  refine g_istore_n (pc' := 3) (lv' := [(1, .int 10), (0, .int p0)]) C d_La_highestOf_2 rfl (by decide) rfl ?_
  refine g_lv (lv' := [(0, .int p0), (1, .int (10 : Int32))]) [1, 0] rfl ?_
  exact w_La_highestOf_L3  C   3000 p0 (10 : Int32) hf
def y_La_operand : MethodName := ⟨"OneLamp$Law", "operand", "(III)I"⟩
theorem yy_La_operand : YS y_La_operand prog_4_method_4_code 3 (some .int) 3 := ⟨mw_3_14, mw_1_6, mw_3_13, by decide +kernel, by decide +kernel, by decide +kernel⟩
theorem d_La_operand_0 : decode prog_4_method_4_code 0 = .ok (.iload_n 0, 1) := by decide +kernel
theorem d_La_operand_1 : decode prog_4_method_4_code 1 = .ok (.tableswitch 65 (-112) (-104) #[51, 65, 58, 65, 53, 65, 65, 65, 60], 51) := by decide +kernel
theorem d_La_operand_52 : decode prog_4_method_4_code 52 = .ok (.iload_n 1, 1) := by decide +kernel
theorem d_La_operand_53 : decode prog_4_method_4_code 53 = .ok (.ireturn, 1) := by decide +kernel
theorem d_La_operand_54 : decode prog_4_method_4_code 54 = .ok (.iload_n 1, 1) := by decide +kernel
theorem d_La_operand_55 : decode prog_4_method_4_code 55 = .ok (.invokestatic 55, 3) := by decide +kernel
theorem d_La_operand_58 : decode prog_4_method_4_code 58 = .ok (.ireturn, 1) := by decide +kernel
theorem d_La_operand_59 : decode prog_4_method_4_code 59 = .ok (.iload_n 2, 1) := by decide +kernel
theorem d_La_operand_60 : decode prog_4_method_4_code 60 = .ok (.ireturn, 1) := by decide +kernel
theorem d_La_operand_61 : decode prog_4_method_4_code 61 = .ok (.iload_n 1, 1) := by decide +kernel
theorem d_La_operand_62 : decode prog_4_method_4_code 62 = .ok (.invokestatic 61, 3) := by decide +kernel
theorem d_La_operand_65 : decode prog_4_method_4_code 65 = .ok (.ireturn, 1) := by decide +kernel
theorem d_La_operand_66 : decode prog_4_method_4_code 66 = .ok (.iload_n 0, 1) := by decide +kernel
theorem d_La_operand_67 : decode prog_4_method_4_code 67 = .ok (.ireturn, 1) := by decide +kernel
def f_La_operand  (p0 : Int32) (p1 : Int32) (p2 : Int32) : Option (Int32) :=
  if p0 = (-112) then
    (some (p1))
  else
  (if p0 = (-110) then
    (some (p2))
  else
  (if p0 = (-108) then
    ((f_JI_bitCount  p1).bind fun r1 =>
    some (r1))
  else
  (if p0 = (-104) then
    ((f_La_highestOf  p1).bind fun r3 =>
    some (r3))
  else
  (some (p0)))))
set_option maxRecDepth 20000 in
theorem c_La_operand {l : Launch} {D : va_G} {dA : Nat → ClassId}   {p0 : Int32} {p1 : Int32} {p2 : Int32} {r0 : Int32}   (hf : f_La_operand  p0 p1 p2 = some r0) : CT l y_La_operand prog_4_method_4_code 3 (some .int) { frames := 1, cells := 0, slots := 0, locals := 21 } D dA [.int p0, .int p1, .int p2] [] (some (.int r0)) (fun _ : Unit => []) := by
  refine ct_intro "OneLamp$Law" rfl (by decide +kernel) (Nat.le_of_ble_eq_true rfl) [(0, .int p0), (1, .int p1), (2, .int p2)] rfl (fun _ C => ?_)
  unfold f_La_operand at hf
  refine g_iload_n (pc' := 1) C 0 d_La_operand_0 rfl rfl ?_
  by_cases q0 : p0 = (-112)
  · replace hf := g_ip q0 hf
    have e : (p0 : Int32).toInt = (-112) := by rw [q0]; rfl
    refine g_tableIn (off := 51) (tgt := 52) C d_La_operand_1 (by rw [e]; decide) (by rw [e]; decide) (by rw [e]; rfl) rfl ?_
    refine g_iload_n (pc' := 53) C 1 d_La_operand_52 rfl rfl ?_
    replace hf := Option.some.inj hf; subst hf
    exact g_iret C d_La_operand_53 () rfl
  replace hf := g_in q0 hf
  by_cases q1 : p0 = (-110)
  · replace hf := g_ip q1 hf
    have e : (p0 : Int32).toInt = (-110) := by rw [q1]; rfl
    refine g_tableIn (off := 58) (tgt := 59) C d_La_operand_1 (by rw [e]; decide) (by rw [e]; decide) (by rw [e]; rfl) rfl ?_
    refine g_iload_n (pc' := 60) C 2 d_La_operand_59 rfl rfl ?_
    replace hf := Option.some.inj hf; subst hf
    exact g_iret C d_La_operand_60 () rfl
  replace hf := g_in q1 hf
  by_cases q2 : p0 = (-108)
  · replace hf := g_ip q2 hf
    have e : (p0 : Int32).toInt = (-108) := by rw [q2]; rfl
    refine g_tableIn (off := 53) (tgt := 54) C d_La_operand_1 (by rw [e]; decide) (by rw [e]; decide) (by rw [e]; rfl) rfl ?_
    refine g_iload_n (pc' := 55) C 1 d_La_operand_54 rfl rfl ?_
    replace hf := g_bi hf; obtain ⟨r1, hc2, hf⟩ := hf
    refine g_callS (pc' := 58) (st1 := [.int r1]) (ws1 := []) C (c_JI_bitCount (l := l) (D := D) (dA := dA)    hc2) yy_JI_bitCount mw_3_15 d_La_operand_55 rfl [] rfl rfl (Nat.le_of_ble_eq_true rfl) ⟨Nat.le_of_ble_eq_true rfl, Nat.le_of_ble_eq_true rfl⟩ rfl rfl (Nat.zero_le _) (Nat.zero_le _) [] rfl (by decide +kernel) rfl (g_lay_sel _ _ _ _ [] (by decide +kernel) rfl (by decide +kernel) rfl rfl) rfl ?_
    replace hf := Option.some.inj hf; subst hf
    exact g_iret C d_La_operand_58 () rfl
  replace hf := g_in q2 hf
  by_cases q3 : p0 = (-104)
  · replace hf := g_ip q3 hf
    have e : (p0 : Int32).toInt = (-104) := by rw [q3]; rfl
    refine g_tableIn (off := 60) (tgt := 61) C d_La_operand_1 (by rw [e]; decide) (by rw [e]; decide) (by rw [e]; rfl) rfl ?_
    refine g_iload_n (pc' := 62) C 1 d_La_operand_61 rfl rfl ?_
    replace hf := g_bi hf; obtain ⟨r3, hc4, hf⟩ := hf
    refine g_callS (pc' := 65) (st1 := [.int r3]) (ws1 := []) C (c_La_highestOf (l := l) (D := D) (dA := dA)    hc4) yy_La_highestOf mw_3_21 d_La_operand_62 rfl [] rfl rfl (Nat.le_of_ble_eq_true rfl) ⟨Nat.le_of_ble_eq_true rfl, Nat.le_of_ble_eq_true rfl⟩ rfl rfl (Nat.zero_le _) (Nat.zero_le _) [] rfl (by decide +kernel) rfl (g_lay_sel _ _ _ _ [] (by decide +kernel) rfl (by decide +kernel) rfl rfl) rfl ?_
    replace hf := Option.some.inj hf; subst hf
    exact g_iret C d_La_operand_65 () rfl
  replace hf := g_in q3 hf
  by_cases m111 : p0 = (-111)
  · have e : (p0 : Int32).toInt = (-111) := by rw [m111]; rfl
    refine g_tableIn (off := 65) (tgt := 66) C d_La_operand_1 (by rw [e]; decide) (by rw [e]; decide) (by rw [e]; rfl) rfl ?_
    refine g_iload_n (pc' := 67) C 0 d_La_operand_66 rfl rfl ?_
    replace hf := Option.some.inj hf; subst hf
    exact g_iret C d_La_operand_67 () rfl
  by_cases m109 : p0 = (-109)
  · have e : (p0 : Int32).toInt = (-109) := by rw [m109]; rfl
    refine g_tableIn (off := 65) (tgt := 66) C d_La_operand_1 (by rw [e]; decide) (by rw [e]; decide) (by rw [e]; rfl) rfl ?_
    refine g_iload_n (pc' := 67) C 0 d_La_operand_66 rfl rfl ?_
    replace hf := Option.some.inj hf; subst hf
    exact g_iret C d_La_operand_67 () rfl
  by_cases m107 : p0 = (-107)
  · have e : (p0 : Int32).toInt = (-107) := by rw [m107]; rfl
    refine g_tableIn (off := 65) (tgt := 66) C d_La_operand_1 (by rw [e]; decide) (by rw [e]; decide) (by rw [e]; rfl) rfl ?_
    refine g_iload_n (pc' := 67) C 0 d_La_operand_66 rfl rfl ?_
    replace hf := Option.some.inj hf; subst hf
    exact g_iret C d_La_operand_67 () rfl
  by_cases m106 : p0 = (-106)
  · have e : (p0 : Int32).toInt = (-106) := by rw [m106]; rfl
    refine g_tableIn (off := 65) (tgt := 66) C d_La_operand_1 (by rw [e]; decide) (by rw [e]; decide) (by rw [e]; rfl) rfl ?_
    refine g_iload_n (pc' := 67) C 0 d_La_operand_66 rfl rfl ?_
    replace hf := Option.some.inj hf; subst hf
    exact g_iret C d_La_operand_67 () rfl
  by_cases m105 : p0 = (-105)
  · have e : (p0 : Int32).toInt = (-105) := by rw [m105]; rfl
    refine g_tableIn (off := 65) (tgt := 66) C d_La_operand_1 (by rw [e]; decide) (by rw [e]; decide) (by rw [e]; rfl) rfl ?_
    refine g_iload_n (pc' := 67) C 0 d_La_operand_66 rfl rfl ?_
    replace hf := Option.some.inj hf; subst hf
    exact g_iret C d_La_operand_67 () rfl
  refine g_tableOut (tgt := 66) C d_La_operand_1 (by have e1112 := lv_neT q0 (show ((-112) : Int32).toInt = (-112) from rfl); have e1110 := lv_neT q1 (show ((-110) : Int32).toInt = (-110) from rfl); have e1108 := lv_neT q2 (show ((-108) : Int32).toInt = (-108) from rfl); have e1104 := lv_neT q3 (show ((-104) : Int32).toInt = (-104) from rfl); have e2111 := lv_neT m111 (show ((-111) : Int32).toInt = (-111) from rfl); have e2109 := lv_neT m109 (show ((-109) : Int32).toInt = (-109) from rfl); have e2107 := lv_neT m107 (show ((-107) : Int32).toInt = (-107) from rfl); have e2106 := lv_neT m106 (show ((-106) : Int32).toInt = (-106) from rfl); have e2105 := lv_neT m105 (show ((-105) : Int32).toInt = (-105) from rfl); omega) rfl ?_
  refine g_iload_n (pc' := 67) C 0 d_La_operand_66 rfl rfl ?_
  replace hf := Option.some.inj hf; subst hf
  exact g_iret C d_La_operand_67 () rfl
def y_La_push : MethodName := ⟨"OneLamp$Law", "push", "(I)V"⟩
theorem yy_La_push : YV y_La_push prog_4_method_7_code 2 none 1 := ⟨mw_3_27, mw_1_6, mw_3_26, tm_s (y := y_La_push) (n := 4) (by decide +kernel), by decide +kernel, by decide +kernel, by decide +kernel⟩
theorem d_La_push_0 : decode prog_4_method_7_code 0 = .ok (.aload_n 0, 1) := by decide +kernel
theorem d_La_push_1 : decode prog_4_method_7_code 1 = .ok (.getfield 28, 3) := by decide +kernel
theorem d_La_push_4 : decode prog_4_method_7_code 4 = .ok (.ifCond .lt 33, 3) := by decide +kernel
theorem d_La_push_7 : decode prog_4_method_7_code 7 = .ok (.aload_n 0, 1) := by decide +kernel
theorem d_La_push_8 : decode prog_4_method_7_code 8 = .ok (.getfield 28, 3) := by decide +kernel
theorem d_La_push_11 : decode prog_4_method_7_code 11 = .ok (.sipush 256, 3) := by decide +kernel
theorem d_La_push_14 : decode prog_4_method_7_code 14 = .ok (.if_icmp .ge 23, 3) := by decide +kernel
theorem d_La_push_17 : decode prog_4_method_7_code 17 = .ok (.aload_n 0, 1) := by decide +kernel
theorem d_La_push_18 : decode prog_4_method_7_code 18 = .ok (.getfield 15, 3) := by decide +kernel
theorem d_La_push_21 : decode prog_4_method_7_code 21 = .ok (.aload_n 0, 1) := by decide +kernel
theorem d_La_push_22 : decode prog_4_method_7_code 22 = .ok (.getfield 28, 3) := by decide +kernel
theorem d_La_push_25 : decode prog_4_method_7_code 25 = .ok (.iload_n 1, 1) := by decide +kernel
theorem d_La_push_26 : decode prog_4_method_7_code 26 = .ok (.iastore, 1) := by decide +kernel
theorem d_La_push_27 : decode prog_4_method_7_code 27 = .ok (.aload_n 0, 1) := by decide +kernel
theorem d_La_push_28 : decode prog_4_method_7_code 28 = .ok (.dup, 1) := by decide +kernel
theorem d_La_push_29 : decode prog_4_method_7_code 29 = .ok (.getfield 28, 3) := by decide +kernel
theorem d_La_push_32 : decode prog_4_method_7_code 32 = .ok (.iconst 1, 1) := by decide +kernel
theorem d_La_push_33 : decode prog_4_method_7_code 33 = .ok (.iadd, 1) := by decide +kernel
theorem d_La_push_34 : decode prog_4_method_7_code 34 = .ok (.putfield 28, 3) := by decide +kernel
theorem d_La_push_37 : decode prog_4_method_7_code 37 = .ok (.return_, 1) := by decide +kernel
def f_La_push  (p1 : Int32) (x_o_top : Int32) (x_o_stack : Nat → Int32) : Option (Int32 × (Nat → Int32)) :=
  if x_o_top < 0 then
    (some (x_o_top, x_o_stack))
  else
    (if (256 : Int32) ≤ x_o_top then
      (some (x_o_top, x_o_stack))
    else
      (if x_o_top < 0 ∨ 256 ≤ Int32.toNatClampNeg x_o_top then none else
      some ((x_o_top + (1 : Int32)), (upd x_o_stack (Int32.toNatClampNeg x_o_top) p1))))
set_option maxRecDepth 20000 in
theorem c_La_push {l : Launch} {D : va_G} {dA : Nat → ClassId} {a_o a_o_code a_o_stack : Nat} {x_o_length : Int32} {p1 : Int32} {x_o_top : Int32} {x_o_stack : Nat → Int32} {o_x_o_top : Int32} {o_x_o_stack : Nat → Int32}   (hf : f_La_push  p1 x_o_top x_o_stack = some (o_x_o_top, o_x_o_stack)) : CT l y_La_push prog_4_method_7_code 2 none { frames := 0, cells := 0, slots := 0, locals := 0 } D dA [.ref a_o, .int p1] [O_La a_o a_o_code x_o_length a_o_stack x_o_top, A_I dA a_o_stack 256 x_o_stack] none (fun _ : Unit => [O_La a_o a_o_code x_o_length a_o_stack o_x_o_top, A_I dA a_o_stack 256 o_x_o_stack]) := by
  refine ct_intro "OneLamp$Law" rfl (by decide +kernel) (Nat.le_of_ble_eq_true rfl) [(0, .ref a_o), (1, .int p1)] rfl (fun _ C => ?_)
  unfold f_La_push at hf
  refine g_aload_n (pc' := 1) C 0 d_La_push_0 rfl rfl ?_
  refine g_get (pc' := 4) C kf_La 3 mw_1_118 d_La_push_1 rfl 0 rfl (by decide) rfl ?_
  refine g_if_lt (pc' := 7) (tgt := 37) C d_La_push_4 rfl rfl (fun h => ?_) (fun h => ?_)
  · replace hf := g_ip h hf
    replace hf := g_o2 hf; obtain ⟨h1, hf⟩ := hf; subst h1
    replace hf := Option.some.inj hf; subst hf
    exact g_vret C d_La_push_37 () rfl
  · replace hf := g_in h hf
    refine g_aload_n (pc' := 8) C 0 d_La_push_7 rfl rfl ?_
    refine g_get (pc' := 11) C kf_La 3 mw_1_118 d_La_push_8 rfl 0 rfl (by decide) rfl ?_
    refine g_sipush (pc' := 14) (v := 256) C d_La_push_11 rfl rfl ?_
    refine g_icmp_ge (pc' := 17) (tgt := 37) C d_La_push_14 rfl rfl (fun h => ?_) (fun h => ?_)
    · replace hf := g_ip h hf
      replace hf := g_o2 hf; obtain ⟨h1, hf⟩ := hf; subst h1
      replace hf := Option.some.inj hf; subst hf
      exact g_vret C d_La_push_37 () rfl
    · replace hf := g_in h hf
      refine g_aload_n (pc' := 18) C 0 d_La_push_17 rfl rfl ?_
      refine g_get (pc' := 21) C kf_La 2 mw_1_117 d_La_push_18 rfl 0 rfl (by decide) rfl ?_
      refine g_aload_n (pc' := 22) C 0 d_La_push_21 rfl rfl ?_
      refine g_get (pc' := 25) C kf_La 3 mw_1_118 d_La_push_22 rfl 0 rfl (by decide) rfl ?_
      refine g_iload_n (pc' := 26) C 1 d_La_push_25 rfl rfl ?_
      have hb := g_ck hf
      replace hf := g_in hb hf
      refine g_iast (pc' := 27) (ws' := [O_La a_o a_o_code x_o_length a_o_stack x_o_top, A_I dA a_o_stack 256 (upd x_o_stack (Int32.toNatClampNeg x_o_top) p1)]) C d_La_push_26 rfl 1 rfl hb rfl ?_
      refine g_aload_n (pc' := 28) C 0 d_La_push_27 rfl rfl ?_
      refine g_dup (pc' := 29) C d_La_push_28 rfl rfl ?_
      refine g_get (pc' := 32) C kf_La 3 mw_1_118 d_La_push_29 rfl 0 rfl (by decide) rfl ?_
      refine g_iconst (pc' := 33) (v := 1) C d_La_push_32 rfl rfl ?_
      refine g_iadd (pc' := 34) C d_La_push_33 rfl ?_
      refine g_put (pc' := 37) (ws' := [O_La a_o a_o_code x_o_length a_o_stack (x_o_top + (1 : Int32)), A_I dA a_o_stack 256 (upd x_o_stack (Int32.toNatClampNeg x_o_top) p1)]) C kf_La 3 mw_1_118 d_La_push_34 rfl 0 rfl (by decide) rfl rfl rfl (Nat.le_of_ble_eq_true rfl) rfl ?_
      replace hf := g_o2 hf; obtain ⟨h1, hf⟩ := hf; subst h1
      replace hf := Option.some.inj hf; subst hf
      exact g_vret C d_La_push_37 () rfl
def y_La_valueOf : MethodName := ⟨"OneLamp$Law", "valueOf", "(II)I"⟩
theorem yy_La_valueOf : YV y_La_valueOf prog_4_method_3_code 8 (some .int) 2 := ⟨mw_2_237, mw_1_6, mw_2_235, mw_2_236, by decide +kernel, by decide +kernel, by decide +kernel⟩
theorem d_La_valueOf_0 : decode prog_4_method_3_code 0 = .ok (.aload_n 0, 1) := by decide +kernel
theorem d_La_valueOf_1 : decode prog_4_method_3_code 1 = .ok (.iconst 0, 1) := by decide +kernel
theorem d_La_valueOf_2 : decode prog_4_method_3_code 2 = .ok (.putfield 28, 3) := by decide +kernel
theorem d_La_valueOf_5 : decode prog_4_method_3_code 5 = .ok (.iconst 1, 1) := by decide +kernel
theorem d_La_valueOf_6 : decode prog_4_method_3_code 6 = .ok (.istore_n 3, 1) := by decide +kernel
theorem d_La_valueOf_7 : decode prog_4_method_3_code 7 = .ok (.iconst 0, 1) := by decide +kernel
theorem d_La_valueOf_8 : decode prog_4_method_3_code 8 = .ok (.istore 4, 2) := by decide +kernel
theorem d_La_valueOf_10 : decode prog_4_method_3_code 10 = .ok (.iload 4, 2) := by decide +kernel
theorem d_La_valueOf_12 : decode prog_4_method_3_code 12 = .ok (.aload_n 0, 1) := by decide +kernel
theorem d_La_valueOf_13 : decode prog_4_method_3_code 13 = .ok (.getfield 24, 3) := by decide +kernel
theorem d_La_valueOf_16 : decode prog_4_method_3_code 16 = .ok (.if_icmp .ge 152, 3) := by decide +kernel
theorem d_La_valueOf_19 : decode prog_4_method_3_code 19 = .ok (.iload 4, 2) := by decide +kernel
theorem d_La_valueOf_21 : decode prog_4_method_3_code 21 = .ok (.sipush 256, 3) := by decide +kernel
theorem d_La_valueOf_24 : decode prog_4_method_3_code 24 = .ok (.if_icmp .ge 144, 3) := by decide +kernel
theorem d_La_valueOf_27 : decode prog_4_method_3_code 27 = .ok (.aload_n 0, 1) := by decide +kernel
theorem d_La_valueOf_28 : decode prog_4_method_3_code 28 = .ok (.getfield 11, 3) := by decide +kernel
theorem d_La_valueOf_31 : decode prog_4_method_3_code 31 = .ok (.iload 4, 2) := by decide +kernel
theorem d_La_valueOf_33 : decode prog_4_method_3_code 33 = .ok (.iaload, 1) := by decide +kernel
theorem d_La_valueOf_34 : decode prog_4_method_3_code 34 = .ok (.istore 5, 2) := by decide +kernel
theorem d_La_valueOf_36 : decode prog_4_method_3_code 36 = .ok (.iload 5, 2) := by decide +kernel
theorem d_La_valueOf_38 : decode prog_4_method_3_code 38 = .ok (.bipush (-59), 2) := by decide +kernel
theorem d_La_valueOf_40 : decode prog_4_method_3_code 40 = .ok (.if_icmp .ne 12, 3) := by decide +kernel
theorem d_La_valueOf_43 : decode prog_4_method_3_code 43 = .ok (.iload_n 3, 1) := by decide +kernel
theorem d_La_valueOf_44 : decode prog_4_method_3_code 44 = .ok (.ifCond .eq 8, 3) := by decide +kernel
theorem d_La_valueOf_47 : decode prog_4_method_3_code 47 = .ok (.aload_n 0, 1) := by decide +kernel
theorem d_La_valueOf_48 : decode prog_4_method_3_code 48 = .ok (.invokevirtual 33, 3) := by decide +kernel
theorem d_La_valueOf_51 : decode prog_4_method_3_code 51 = .ok (.ireturn, 1) := by decide +kernel
theorem d_La_valueOf_52 : decode prog_4_method_3_code 52 = .ok (.iload 5, 2) := by decide +kernel
theorem d_La_valueOf_54 : decode prog_4_method_3_code 54 = .ok (.bipush (-59), 2) := by decide +kernel
theorem d_La_valueOf_56 : decode prog_4_method_3_code 56 = .ok (.if_icmp .ne 8, 3) := by decide +kernel
theorem d_La_valueOf_59 : decode prog_4_method_3_code 59 = .ok (.iconst 1, 1) := by decide +kernel
theorem d_La_valueOf_60 : decode prog_4_method_3_code 60 = .ok (.istore_n 3, 1) := by decide +kernel
theorem d_La_valueOf_61 : decode prog_4_method_3_code 61 = .ok (.goto 101, 3) := by decide +kernel
theorem d_La_valueOf_64 : decode prog_4_method_3_code 64 = .ok (.iload 5, 2) := by decide +kernel
theorem d_La_valueOf_66 : decode prog_4_method_3_code 66 = .ok (.bipush (-63), 2) := by decide +kernel
theorem d_La_valueOf_68 : decode prog_4_method_3_code 68 = .ok (.if_icmp .ne 23, 3) := by decide +kernel
theorem d_La_valueOf_71 : decode prog_4_method_3_code 71 = .ok (.iload_n 3, 1) := by decide +kernel
theorem d_La_valueOf_72 : decode prog_4_method_3_code 72 = .ok (.ifCond .eq 19, 3) := by decide +kernel
theorem d_La_valueOf_75 : decode prog_4_method_3_code 75 = .ok (.aload_n 0, 1) := by decide +kernel
theorem d_La_valueOf_76 : decode prog_4_method_3_code 76 = .ok (.invokevirtual 33, 3) := by decide +kernel
theorem d_La_valueOf_79 : decode prog_4_method_3_code 79 = .ok (.ifCond .eq 7, 3) := by decide +kernel
theorem d_La_valueOf_82 : decode prog_4_method_3_code 82 = .ok (.iconst 1, 1) := by decide +kernel
theorem d_La_valueOf_83 : decode prog_4_method_3_code 83 = .ok (.goto 4, 3) := by decide +kernel
theorem d_La_valueOf_86 : decode prog_4_method_3_code 86 = .ok (.iconst 0, 1) := by decide +kernel
theorem d_La_valueOf_87 : decode prog_4_method_3_code 87 = .ok (.istore_n 3, 1) := by decide +kernel
theorem d_La_valueOf_88 : decode prog_4_method_3_code 88 = .ok (.goto 74, 3) := by decide +kernel
theorem d_La_valueOf_91 : decode prog_4_method_3_code 91 = .ok (.iload_n 3, 1) := by decide +kernel
theorem d_La_valueOf_92 : decode prog_4_method_3_code 92 = .ok (.ifCond .eq 70, 3) := by decide +kernel
theorem d_La_valueOf_95 : decode prog_4_method_3_code 95 = .ok (.iload 5, 2) := by decide +kernel
theorem d_La_valueOf_97 : decode prog_4_method_3_code 97 = .ok (.invokestatic 37, 3) := by decide +kernel
theorem d_La_valueOf_100 : decode prog_4_method_3_code 100 = .ok (.ifCond .eq 10, 3) := by decide +kernel
theorem d_La_valueOf_103 : decode prog_4_method_3_code 103 = .ok (.aload_n 0, 1) := by decide +kernel
theorem d_La_valueOf_104 : decode prog_4_method_3_code 104 = .ok (.invokevirtual 33, 3) := by decide +kernel
theorem d_La_valueOf_107 : decode prog_4_method_3_code 107 = .ok (.goto 4, 3) := by decide +kernel
theorem d_La_valueOf_110 : decode prog_4_method_3_code 110 = .ok (.iconst 0, 1) := by decide +kernel
theorem d_La_valueOf_111 : decode prog_4_method_3_code 111 = .ok (.istore 6, 2) := by decide +kernel
theorem d_La_valueOf_113 : decode prog_4_method_3_code 113 = .ok (.iload 5, 2) := by decide +kernel
theorem d_La_valueOf_115 : decode prog_4_method_3_code 115 = .ok (.invokestatic 41, 3) := by decide +kernel
theorem d_La_valueOf_118 : decode prog_4_method_3_code 118 = .ok (.ifCond .eq 10, 3) := by decide +kernel
theorem d_La_valueOf_121 : decode prog_4_method_3_code 121 = .ok (.aload_n 0, 1) := by decide +kernel
theorem d_La_valueOf_122 : decode prog_4_method_3_code 122 = .ok (.invokevirtual 33, 3) := by decide +kernel
theorem d_La_valueOf_125 : decode prog_4_method_3_code 125 = .ok (.goto 4, 3) := by decide +kernel
theorem d_La_valueOf_128 : decode prog_4_method_3_code 128 = .ok (.iconst 0, 1) := by decide +kernel
theorem d_La_valueOf_129 : decode prog_4_method_3_code 129 = .ok (.istore 7, 2) := by decide +kernel
theorem d_La_valueOf_131 : decode prog_4_method_3_code 131 = .ok (.aload_n 0, 1) := by decide +kernel
theorem d_La_valueOf_132 : decode prog_4_method_3_code 132 = .ok (.iload 5, 2) := by decide +kernel
theorem d_La_valueOf_134 : decode prog_4_method_3_code 134 = .ok (.invokestatic 37, 3) := by decide +kernel
theorem d_La_valueOf_137 : decode prog_4_method_3_code 137 = .ok (.ifCond .eq 15, 3) := by decide +kernel
theorem d_La_valueOf_140 : decode prog_4_method_3_code 140 = .ok (.iload 5, 2) := by decide +kernel
theorem d_La_valueOf_142 : decode prog_4_method_3_code 142 = .ok (.iload 7, 2) := by decide +kernel
theorem d_La_valueOf_144 : decode prog_4_method_3_code 144 = .ok (.iload 6, 2) := by decide +kernel
theorem d_La_valueOf_146 : decode prog_4_method_3_code 146 = .ok (.invokestatic 44, 3) := by decide +kernel
theorem d_La_valueOf_149 : decode prog_4_method_3_code 149 = .ok (.goto 10, 3) := by decide +kernel
theorem d_La_valueOf_152 : decode prog_4_method_3_code 152 = .ok (.iload 5, 2) := by decide +kernel
theorem d_La_valueOf_154 : decode prog_4_method_3_code 154 = .ok (.iload_n 1, 1) := by decide +kernel
theorem d_La_valueOf_155 : decode prog_4_method_3_code 155 = .ok (.iload_n 2, 1) := by decide +kernel
theorem d_La_valueOf_156 : decode prog_4_method_3_code 156 = .ok (.invokestatic 48, 3) := by decide +kernel
theorem d_La_valueOf_159 : decode prog_4_method_3_code 159 = .ok (.invokevirtual 51, 3) := by decide +kernel
theorem d_La_valueOf_162 : decode prog_4_method_3_code 162 = .ok (.iinc 4 1, 3) := by decide +kernel
theorem d_La_valueOf_165 : decode prog_4_method_3_code 165 = .ok (.goto (-155), 3) := by decide +kernel
theorem d_La_valueOf_168 : decode prog_4_method_3_code 168 = .ok (.iconst 0, 1) := by decide +kernel
theorem d_La_valueOf_169 : decode prog_4_method_3_code 169 = .ok (.ireturn, 1) := by decide +kernel
def f_La_valueOf_L162  (k10 : Int32 → Int32 → Bool → Int32 → Int32 → Int32 → (Nat → Int32) → (Nat → Int32) → Option (Int32 × Int32 × (Nat → Int32))) (v1 : Int32) (v2 : Int32) (v3 : Bool) (v4 : Int32) (x_o_length : Int32) (x_o_top : Int32) (x_o_code : Nat → Int32) (x_o_stack : Nat → Int32) : Option (Int32 × Int32 × (Nat → Int32)) :=
  k10 v1 v2 v3 (v4 + 1) x_o_length x_o_top x_o_code x_o_stack
set_option maxRecDepth 20000 in
theorem w_La_valueOf_L162 {p : Program} {l : Launch} {e : Env} {s : State} {m : MethodId} {args : Array Value} {below : List Frame} {meth : Method} {c : Code} {D : va_G} {dA : Nat → ClassId} {A : Nat → Prop} (C : GC p s m args meth c prog_4_method_3_code 8 "OneLamp$Law" (some .int) D dA A) {a_o a_o_code a_o_stack : Nat}  {r0 : Int32} {o_x_o_top : Int32} {o_x_o_stack : Nat → Int32}   (k10 : Int32 → Int32 → Bool → Int32 → Int32 → Int32 → (Nat → Int32) → (Nat → Int32) → Option (Int32 × Int32 × (Nat → Int32))) (hk10 : ∀ (v1 : Int32) (v2 : Int32) (v3 : Bool) (v4 : Int32) (x_o_length : Int32) (x_o_top : Int32) (x_o_code : Nat → Int32) (x_o_stack : Nat → Int32), k10 v1 v2 v3 v4 x_o_length x_o_top x_o_code x_o_stack = some (r0, o_x_o_top, o_x_o_stack) → GG p l e { frames := 2, cells := 0, slots := 0, locals := 43 } s m args below meth c 8 D A 0 0 (MQ below (cQ D A (some (.int r0)) (fun _ : Unit => [O_La a_o a_o_code x_o_length a_o_stack o_x_o_top, A_I dA a_o_code 256 x_o_code, A_I dA a_o_stack 256 o_x_o_stack])) args s 0 0 A) 10 [(0, .ref a_o), (1, .int v1), (2, .int v2), (3, .int (b2i v3)), (4, .int v4)] [] [O_La a_o a_o_code x_o_length a_o_stack x_o_top, A_I dA a_o_code 256 x_o_code, A_I dA a_o_stack 256 x_o_stack]) (v1 : Int32) (v2 : Int32) (v3 : Bool) (v4 : Int32) (x_o_length : Int32) (x_o_top : Int32) (x_o_code : Nat → Int32) (x_o_stack : Nat → Int32) (hf : f_La_valueOf_L162  k10 v1 v2 v3 v4 x_o_length x_o_top x_o_code x_o_stack = some (r0, o_x_o_top, o_x_o_stack)) : GG p l e { frames := 2, cells := 0, slots := 0, locals := 43 } s m args below meth c 8 D A 0 0 (MQ below (cQ D A (some (.int r0)) (fun _ : Unit => [O_La a_o a_o_code x_o_length a_o_stack o_x_o_top, A_I dA a_o_code 256 x_o_code, A_I dA a_o_stack 256 o_x_o_stack])) args s 0 0 A) 162 [(0, .ref a_o), (1, .int v1), (2, .int v2), (3, .int (b2i v3)), (4, .int v4)] [] [O_La a_o a_o_code x_o_length a_o_stack x_o_top, A_I dA a_o_code 256 x_o_code, A_I dA a_o_stack 256 x_o_stack] := by
  unfold f_La_valueOf_L162 at hf
  refine g_iinc (pc' := 165) (j := 4) (v := (v4 + 1)) (lv' := [(4, .int (v4 + 1)), (0, .ref a_o), (1, .int v1), (2, .int v2), (3, .int (b2i v3))]) C d_La_valueOf_162 rfl rfl rfl (by decide) rfl ?_
  refine g_goto (tgt := 10) C d_La_valueOf_165 rfl ?_
  refine g_lv (lv' := [(0, .ref a_o), (1, .int v1), (2, .int v2), (3, .int (b2i v3)), (4, .int (v4 + 1))]) [1, 2, 3, 4, 0] rfl ?_
  exact hk10 v1 v2 v3 (v4 + 1) x_o_length x_o_top x_o_code x_o_stack hf
def f_La_valueOf_L87  (k10 : Int32 → Int32 → Bool → Int32 → Int32 → Int32 → (Nat → Int32) → (Nat → Int32) → Option (Int32 × Int32 × (Nat → Int32))) (v1 : Int32) (v2 : Int32) (v4 : Int32) (s0 : Bool) (x_o_length : Int32) (x_o_top : Int32) (x_o_code : Nat → Int32) (x_o_stack : Nat → Int32) : Option (Int32 × Int32 × (Nat → Int32)) :=
  f_La_valueOf_L162 k10 v1 v2 s0 v4 x_o_length x_o_top x_o_code x_o_stack
set_option maxRecDepth 20000 in
theorem w_La_valueOf_L87 {p : Program} {l : Launch} {e : Env} {s : State} {m : MethodId} {args : Array Value} {below : List Frame} {meth : Method} {c : Code} {D : va_G} {dA : Nat → ClassId} {A : Nat → Prop} (C : GC p s m args meth c prog_4_method_3_code 8 "OneLamp$Law" (some .int) D dA A) {a_o a_o_code a_o_stack : Nat}  {r0 : Int32} {o_x_o_top : Int32} {o_x_o_stack : Nat → Int32}   (k10 : Int32 → Int32 → Bool → Int32 → Int32 → Int32 → (Nat → Int32) → (Nat → Int32) → Option (Int32 × Int32 × (Nat → Int32))) (hk10 : ∀ (v1 : Int32) (v2 : Int32) (v3 : Bool) (v4 : Int32) (x_o_length : Int32) (x_o_top : Int32) (x_o_code : Nat → Int32) (x_o_stack : Nat → Int32), k10 v1 v2 v3 v4 x_o_length x_o_top x_o_code x_o_stack = some (r0, o_x_o_top, o_x_o_stack) → GG p l e { frames := 2, cells := 0, slots := 0, locals := 43 } s m args below meth c 8 D A 0 0 (MQ below (cQ D A (some (.int r0)) (fun _ : Unit => [O_La a_o a_o_code x_o_length a_o_stack o_x_o_top, A_I dA a_o_code 256 x_o_code, A_I dA a_o_stack 256 o_x_o_stack])) args s 0 0 A) 10 [(0, .ref a_o), (1, .int v1), (2, .int v2), (3, .int (b2i v3)), (4, .int v4)] [] [O_La a_o a_o_code x_o_length a_o_stack x_o_top, A_I dA a_o_code 256 x_o_code, A_I dA a_o_stack 256 x_o_stack]) (v1 : Int32) (v2 : Int32) (v4 : Int32) (s0 : Bool) (x_o_length : Int32) (x_o_top : Int32) (x_o_code : Nat → Int32) (x_o_stack : Nat → Int32) (hf : f_La_valueOf_L87  k10 v1 v2 v4 s0 x_o_length x_o_top x_o_code x_o_stack = some (r0, o_x_o_top, o_x_o_stack)) : GG p l e { frames := 2, cells := 0, slots := 0, locals := 43 } s m args below meth c 8 D A 0 0 (MQ below (cQ D A (some (.int r0)) (fun _ : Unit => [O_La a_o a_o_code x_o_length a_o_stack o_x_o_top, A_I dA a_o_code 256 x_o_code, A_I dA a_o_stack 256 o_x_o_stack])) args s 0 0 A) 87 [(0, .ref a_o), (1, .int v1), (2, .int v2), (4, .int v4)] [.int (b2i s0)] [O_La a_o a_o_code x_o_length a_o_stack x_o_top, A_I dA a_o_code 256 x_o_code, A_I dA a_o_stack 256 x_o_stack] := by
  unfold f_La_valueOf_L87 at hf
  refine g_istore_n (pc' := 88) (lv' := [(3, .int (b2i s0)), (0, .ref a_o), (1, .int v1), (2, .int v2), (4, .int v4)]) C d_La_valueOf_87 rfl (by decide) rfl ?_
  refine g_goto (tgt := 162) C d_La_valueOf_88 rfl ?_
  refine g_lv (lv' := [(0, .ref a_o), (1, .int v1), (2, .int v2), (3, .int (b2i s0)), (4, .int v4)]) [1, 2, 3, 0, 4] rfl ?_
  exact w_La_valueOf_L162 (a_o := a_o) (a_o_code := a_o_code) (a_o_stack := a_o_stack) C  k10 hk10 v1 v2 s0 v4 x_o_length x_o_top x_o_code x_o_stack hf
def f_La_valueOf_L159  (k10 : Int32 → Int32 → Bool → Int32 → Int32 → Int32 → (Nat → Int32) → (Nat → Int32) → Option (Int32 × Int32 × (Nat → Int32))) (v1 : Int32) (v2 : Int32) (v3 : Bool) (v4 : Int32) (s0 : Int32) (x_o_length : Int32) (x_o_top : Int32) (x_o_code : Nat → Int32) (x_o_stack : Nat → Int32) : Option (Int32 × Int32 × (Nat → Int32)) :=
  (f_La_push  s0 x_o_top x_o_stack).bind fun (u23, u24) =>
  f_La_valueOf_L162 k10 v1 v2 v3 v4 x_o_length u23 x_o_code u24
set_option maxRecDepth 20000 in
theorem w_La_valueOf_L159 {p : Program} {l : Launch} {e : Env} {s : State} {m : MethodId} {args : Array Value} {below : List Frame} {meth : Method} {c : Code} {D : va_G} {dA : Nat → ClassId} {A : Nat → Prop} (C : GC p s m args meth c prog_4_method_3_code 8 "OneLamp$Law" (some .int) D dA A) {a_o a_o_code a_o_stack : Nat}  {r0 : Int32} {o_x_o_top : Int32} {o_x_o_stack : Nat → Int32}   (k10 : Int32 → Int32 → Bool → Int32 → Int32 → Int32 → (Nat → Int32) → (Nat → Int32) → Option (Int32 × Int32 × (Nat → Int32))) (hk10 : ∀ (v1 : Int32) (v2 : Int32) (v3 : Bool) (v4 : Int32) (x_o_length : Int32) (x_o_top : Int32) (x_o_code : Nat → Int32) (x_o_stack : Nat → Int32), k10 v1 v2 v3 v4 x_o_length x_o_top x_o_code x_o_stack = some (r0, o_x_o_top, o_x_o_stack) → GG p l e { frames := 2, cells := 0, slots := 0, locals := 43 } s m args below meth c 8 D A 0 0 (MQ below (cQ D A (some (.int r0)) (fun _ : Unit => [O_La a_o a_o_code x_o_length a_o_stack o_x_o_top, A_I dA a_o_code 256 x_o_code, A_I dA a_o_stack 256 o_x_o_stack])) args s 0 0 A) 10 [(0, .ref a_o), (1, .int v1), (2, .int v2), (3, .int (b2i v3)), (4, .int v4)] [] [O_La a_o a_o_code x_o_length a_o_stack x_o_top, A_I dA a_o_code 256 x_o_code, A_I dA a_o_stack 256 x_o_stack]) (v1 : Int32) (v2 : Int32) (v3 : Bool) (v4 : Int32) (s0 : Int32) (x_o_length : Int32) (x_o_top : Int32) (x_o_code : Nat → Int32) (x_o_stack : Nat → Int32) (hf : f_La_valueOf_L159  k10 v1 v2 v3 v4 s0 x_o_length x_o_top x_o_code x_o_stack = some (r0, o_x_o_top, o_x_o_stack)) : GG p l e { frames := 2, cells := 0, slots := 0, locals := 43 } s m args below meth c 8 D A 0 0 (MQ below (cQ D A (some (.int r0)) (fun _ : Unit => [O_La a_o a_o_code x_o_length a_o_stack o_x_o_top, A_I dA a_o_code 256 x_o_code, A_I dA a_o_stack 256 o_x_o_stack])) args s 0 0 A) 159 [(0, .ref a_o), (1, .int v1), (2, .int v2), (3, .int (b2i v3)), (4, .int v4)] [.int s0, .ref a_o] [O_La a_o a_o_code x_o_length a_o_stack x_o_top, A_I dA a_o_code 256 x_o_code, A_I dA a_o_stack 256 x_o_stack] := by
  unfold f_La_valueOf_L159 at hf
  replace hf := g_bi hf; obtain ⟨⟨u23, u24⟩, hc25, hf⟩ := hf
  dsimp only at hf
  refine g_callV (pc' := 162) (st1 := []) (ws1 := [O_La a_o a_o_code x_o_length a_o_stack u23, A_I dA a_o_code 256 x_o_code, A_I dA a_o_stack 256 u24]) C (c_La_push (l := l) (D := D) (dA := dA) (a_o := a_o) (a_o_code := a_o_code) (a_o_stack := a_o_stack) (x_o_length := x_o_length)   hc25) yy_La_push kf_La rfl mw_3_24 d_La_valueOf_159 rfl [] rfl rfl (Nat.le_of_ble_eq_true rfl) ⟨Nat.le_of_ble_eq_true rfl, Nat.le_of_ble_eq_true rfl⟩ rfl rfl (Nat.zero_le _) (Nat.zero_le _) 0 rfl [0, 2] rfl (by decide +kernel) rfl (g_lay_sel _ _ _ _ [(0, true), (1, false), (1, true)] (by decide +kernel) rfl (by decide +kernel) rfl rfl) rfl ?_
  exact w_La_valueOf_L162 (a_o := a_o) (a_o_code := a_o_code) (a_o_stack := a_o_stack) C  k10 hk10 v1 v2 v3 v4 x_o_length u23 x_o_code u24 hf
def f_La_valueOf_L129  (k10 : Int32 → Int32 → Bool → Int32 → Int32 → Int32 → (Nat → Int32) → (Nat → Int32) → Option (Int32 × Int32 × (Nat → Int32))) (v1 : Int32) (v2 : Int32) (v3 : Bool) (v4 : Int32) (v5 : Int32) (v6 : Int32) (s0 : Int32) (x_o_length : Int32) (x_o_top : Int32) (x_o_code : Nat → Int32) (x_o_stack : Nat → Int32) : Option (Int32 × Int32 × (Nat → Int32)) :=
  (f_Sg_takesOperands  v5).bind fun r17 =>
  if r17 = true then
    ((f_La_worked  v5 s0 v6).bind fun r21 =>
    f_La_valueOf_L159 k10 v1 v2 v3 v4 r21 x_o_length x_o_top x_o_code x_o_stack)
  else
    ((f_La_operand  v5 v1 v2).bind fun r19 =>
    f_La_valueOf_L159 k10 v1 v2 v3 v4 r19 x_o_length x_o_top x_o_code x_o_stack)
set_option maxRecDepth 20000 in
theorem w_La_valueOf_L129 {p : Program} {l : Launch} {e : Env} {s : State} {m : MethodId} {args : Array Value} {below : List Frame} {meth : Method} {c : Code} {D : va_G} {dA : Nat → ClassId} {A : Nat → Prop} (C : GC p s m args meth c prog_4_method_3_code 8 "OneLamp$Law" (some .int) D dA A) {a_o a_o_code a_o_stack : Nat}  {r0 : Int32} {o_x_o_top : Int32} {o_x_o_stack : Nat → Int32}   (k10 : Int32 → Int32 → Bool → Int32 → Int32 → Int32 → (Nat → Int32) → (Nat → Int32) → Option (Int32 × Int32 × (Nat → Int32))) (hk10 : ∀ (v1 : Int32) (v2 : Int32) (v3 : Bool) (v4 : Int32) (x_o_length : Int32) (x_o_top : Int32) (x_o_code : Nat → Int32) (x_o_stack : Nat → Int32), k10 v1 v2 v3 v4 x_o_length x_o_top x_o_code x_o_stack = some (r0, o_x_o_top, o_x_o_stack) → GG p l e { frames := 2, cells := 0, slots := 0, locals := 43 } s m args below meth c 8 D A 0 0 (MQ below (cQ D A (some (.int r0)) (fun _ : Unit => [O_La a_o a_o_code x_o_length a_o_stack o_x_o_top, A_I dA a_o_code 256 x_o_code, A_I dA a_o_stack 256 o_x_o_stack])) args s 0 0 A) 10 [(0, .ref a_o), (1, .int v1), (2, .int v2), (3, .int (b2i v3)), (4, .int v4)] [] [O_La a_o a_o_code x_o_length a_o_stack x_o_top, A_I dA a_o_code 256 x_o_code, A_I dA a_o_stack 256 x_o_stack]) (v1 : Int32) (v2 : Int32) (v3 : Bool) (v4 : Int32) (v5 : Int32) (v6 : Int32) (s0 : Int32) (x_o_length : Int32) (x_o_top : Int32) (x_o_code : Nat → Int32) (x_o_stack : Nat → Int32) (hf : f_La_valueOf_L129  k10 v1 v2 v3 v4 v5 v6 s0 x_o_length x_o_top x_o_code x_o_stack = some (r0, o_x_o_top, o_x_o_stack)) : GG p l e { frames := 2, cells := 0, slots := 0, locals := 43 } s m args below meth c 8 D A 0 0 (MQ below (cQ D A (some (.int r0)) (fun _ : Unit => [O_La a_o a_o_code x_o_length a_o_stack o_x_o_top, A_I dA a_o_code 256 x_o_code, A_I dA a_o_stack 256 o_x_o_stack])) args s 0 0 A) 129 [(0, .ref a_o), (1, .int v1), (2, .int v2), (3, .int (b2i v3)), (4, .int v4), (5, .int v5), (6, .int v6)] [.int s0] [O_La a_o a_o_code x_o_length a_o_stack x_o_top, A_I dA a_o_code 256 x_o_code, A_I dA a_o_stack 256 x_o_stack] := by
  unfold f_La_valueOf_L129 at hf
  refine g_istore (pc' := 131) (lv' := [(7, .int s0), (0, .ref a_o), (1, .int v1), (2, .int v2), (3, .int (b2i v3)), (4, .int v4), (5, .int v5), (6, .int v6)]) C d_La_valueOf_129 rfl (by decide) rfl ?_
  refine g_aload_n (pc' := 132) C 1 d_La_valueOf_131 rfl rfl ?_
  refine g_iload (pc' := 134) C 6 d_La_valueOf_132 rfl rfl ?_
  replace hf := g_bi hf; obtain ⟨r17, hc18, hf⟩ := hf
  refine g_callS (pc' := 137) (st1 := [.int (b2i r17), .ref a_o]) (ws1 := [O_La a_o a_o_code x_o_length a_o_stack x_o_top, A_I dA a_o_code 256 x_o_code, A_I dA a_o_stack 256 x_o_stack]) C (c_Sg_takesOperands (l := l) (D := D) (dA := dA)    hc18) yy_Sg_takesOperands mw_3_2 d_La_valueOf_134 rfl [.ref a_o] rfl rfl (Nat.le_of_ble_eq_true rfl) ⟨Nat.le_of_ble_eq_true rfl, Nat.le_of_ble_eq_true rfl⟩ rfl rfl (Nat.zero_le _) (Nat.zero_le _) [] rfl (by decide +kernel) rfl (g_lay_sel _ _ _ _ [(0, false), (1, false), (2, false)] (by decide +kernel) rfl (by decide +kernel) rfl rfl) rfl ?_
  refine g_if_eqb (pc' := 140) (tgt := 152) C d_La_valueOf_137 rfl rfl (fun h => ?_) (fun h => ?_)
  · replace hf := g_bf h hf
    refine g_iload (pc' := 154) C 6 d_La_valueOf_152 rfl rfl ?_
    refine g_iload_n (pc' := 155) C 2 d_La_valueOf_154 rfl rfl ?_
    refine g_iload_n (pc' := 156) C 3 d_La_valueOf_155 rfl rfl ?_
    replace hf := g_bi hf; obtain ⟨r19, hc20, hf⟩ := hf
    refine g_callS (pc' := 159) (st1 := [.int r19, .ref a_o]) (ws1 := [O_La a_o a_o_code x_o_length a_o_stack x_o_top, A_I dA a_o_code 256 x_o_code, A_I dA a_o_stack 256 x_o_stack]) C (c_La_operand (l := l) (D := D) (dA := dA)    hc20) yy_La_operand mw_3_12 d_La_valueOf_156 rfl [.ref a_o] rfl rfl (Nat.le_of_ble_eq_true rfl) ⟨Nat.le_of_ble_eq_true rfl, Nat.le_of_ble_eq_true rfl⟩ rfl rfl (Nat.zero_le _) (Nat.zero_le _) [] rfl (by decide +kernel) rfl (g_lay_sel _ _ _ _ [(0, false), (1, false), (2, false)] (by decide +kernel) rfl (by decide +kernel) rfl rfl) rfl ?_
    refine g_lv (lv' := [(0, .ref a_o), (1, .int v1), (2, .int v2), (3, .int (b2i v3)), (4, .int v4)]) [1, 2, 3, 4, 5] rfl ?_
    exact w_La_valueOf_L159 (a_o := a_o) (a_o_code := a_o_code) (a_o_stack := a_o_stack) C  k10 hk10 v1 v2 v3 v4 r19 x_o_length x_o_top x_o_code x_o_stack hf
  · replace hf := g_bt h hf
    refine g_iload (pc' := 142) C 6 d_La_valueOf_140 rfl rfl ?_
    refine g_iload (pc' := 144) C 0 d_La_valueOf_142 rfl rfl ?_
    refine g_iload (pc' := 146) C 7 d_La_valueOf_144 rfl rfl ?_
    replace hf := g_bi hf; obtain ⟨r21, hc22, hf⟩ := hf
    refine g_callS (pc' := 149) (st1 := [.int r21, .ref a_o]) (ws1 := [O_La a_o a_o_code x_o_length a_o_stack x_o_top, A_I dA a_o_code 256 x_o_code, A_I dA a_o_stack 256 x_o_stack]) C (c_La_worked (l := l) (D := D) (dA := dA)    hc22) yy_La_worked mw_3_9 d_La_valueOf_146 rfl [.ref a_o] rfl rfl (Nat.le_of_ble_eq_true rfl) ⟨Nat.le_of_ble_eq_true rfl, Nat.le_of_ble_eq_true rfl⟩ rfl rfl (Nat.zero_le _) (Nat.zero_le _) [] rfl (by decide +kernel) rfl (g_lay_sel _ _ _ _ [(0, false), (1, false), (2, false)] (by decide +kernel) rfl (by decide +kernel) rfl rfl) rfl ?_
    refine g_goto (tgt := 159) C d_La_valueOf_149 rfl ?_
    refine g_lv (lv' := [(0, .ref a_o), (1, .int v1), (2, .int v2), (3, .int (b2i v3)), (4, .int v4)]) [1, 2, 3, 4, 5] rfl ?_
    exact w_La_valueOf_L159 (a_o := a_o) (a_o_code := a_o_code) (a_o_stack := a_o_stack) C  k10 hk10 v1 v2 v3 v4 r21 x_o_length x_o_top x_o_code x_o_stack hf
def f_La_valueOf_L111  (k10 : Int32 → Int32 → Bool → Int32 → Int32 → Int32 → (Nat → Int32) → (Nat → Int32) → Option (Int32 × Int32 × (Nat → Int32))) (v1 : Int32) (v2 : Int32) (v3 : Bool) (v4 : Int32) (v5 : Int32) (s0 : Int32) (x_o_length : Int32) (x_o_top : Int32) (x_o_code : Nat → Int32) (x_o_stack : Nat → Int32) : Option (Int32 × Int32 × (Nat → Int32)) :=
  (f_Sg_joins  v5).bind fun r12 =>
  if r12 = true then
    ((f_La_pop  x_o_top x_o_stack).bind fun (r14, u15) =>
    f_La_valueOf_L129 k10 v1 v2 v3 v4 v5 s0 r14 x_o_length u15 x_o_code x_o_stack)
  else
    (f_La_valueOf_L129 k10 v1 v2 v3 v4 v5 s0 (0 : Int32) x_o_length x_o_top x_o_code x_o_stack)
set_option maxRecDepth 20000 in
theorem w_La_valueOf_L111 {p : Program} {l : Launch} {e : Env} {s : State} {m : MethodId} {args : Array Value} {below : List Frame} {meth : Method} {c : Code} {D : va_G} {dA : Nat → ClassId} {A : Nat → Prop} (C : GC p s m args meth c prog_4_method_3_code 8 "OneLamp$Law" (some .int) D dA A) {a_o a_o_code a_o_stack : Nat}  {r0 : Int32} {o_x_o_top : Int32} {o_x_o_stack : Nat → Int32}   (k10 : Int32 → Int32 → Bool → Int32 → Int32 → Int32 → (Nat → Int32) → (Nat → Int32) → Option (Int32 × Int32 × (Nat → Int32))) (hk10 : ∀ (v1 : Int32) (v2 : Int32) (v3 : Bool) (v4 : Int32) (x_o_length : Int32) (x_o_top : Int32) (x_o_code : Nat → Int32) (x_o_stack : Nat → Int32), k10 v1 v2 v3 v4 x_o_length x_o_top x_o_code x_o_stack = some (r0, o_x_o_top, o_x_o_stack) → GG p l e { frames := 2, cells := 0, slots := 0, locals := 43 } s m args below meth c 8 D A 0 0 (MQ below (cQ D A (some (.int r0)) (fun _ : Unit => [O_La a_o a_o_code x_o_length a_o_stack o_x_o_top, A_I dA a_o_code 256 x_o_code, A_I dA a_o_stack 256 o_x_o_stack])) args s 0 0 A) 10 [(0, .ref a_o), (1, .int v1), (2, .int v2), (3, .int (b2i v3)), (4, .int v4)] [] [O_La a_o a_o_code x_o_length a_o_stack x_o_top, A_I dA a_o_code 256 x_o_code, A_I dA a_o_stack 256 x_o_stack]) (v1 : Int32) (v2 : Int32) (v3 : Bool) (v4 : Int32) (v5 : Int32) (s0 : Int32) (x_o_length : Int32) (x_o_top : Int32) (x_o_code : Nat → Int32) (x_o_stack : Nat → Int32) (hf : f_La_valueOf_L111  k10 v1 v2 v3 v4 v5 s0 x_o_length x_o_top x_o_code x_o_stack = some (r0, o_x_o_top, o_x_o_stack)) : GG p l e { frames := 2, cells := 0, slots := 0, locals := 43 } s m args below meth c 8 D A 0 0 (MQ below (cQ D A (some (.int r0)) (fun _ : Unit => [O_La a_o a_o_code x_o_length a_o_stack o_x_o_top, A_I dA a_o_code 256 x_o_code, A_I dA a_o_stack 256 o_x_o_stack])) args s 0 0 A) 111 [(0, .ref a_o), (1, .int v1), (2, .int v2), (3, .int (b2i v3)), (4, .int v4), (5, .int v5)] [.int s0] [O_La a_o a_o_code x_o_length a_o_stack x_o_top, A_I dA a_o_code 256 x_o_code, A_I dA a_o_stack 256 x_o_stack] := by
  unfold f_La_valueOf_L111 at hf
  refine g_istore (pc' := 113) (lv' := [(6, .int s0), (0, .ref a_o), (1, .int v1), (2, .int v2), (3, .int (b2i v3)), (4, .int v4), (5, .int v5)]) C d_La_valueOf_111 rfl (by decide) rfl ?_
  refine g_iload (pc' := 115) C 6 d_La_valueOf_113 rfl rfl ?_
  replace hf := g_bi hf; obtain ⟨r12, hc13, hf⟩ := hf
  refine g_callS (pc' := 118) (st1 := [.int (b2i r12)]) (ws1 := [O_La a_o a_o_code x_o_length a_o_stack x_o_top, A_I dA a_o_code 256 x_o_code, A_I dA a_o_stack 256 x_o_stack]) C (c_Sg_joins (l := l) (D := D) (dA := dA)    hc13) yy_Sg_joins mw_3_8 d_La_valueOf_115 rfl [] rfl rfl (Nat.le_of_ble_eq_true rfl) ⟨Nat.le_of_ble_eq_true rfl, Nat.le_of_ble_eq_true rfl⟩ rfl rfl (Nat.zero_le _) (Nat.zero_le _) [] rfl (by decide +kernel) rfl (g_lay_sel _ _ _ _ [(0, false), (1, false), (2, false)] (by decide +kernel) rfl (by decide +kernel) rfl rfl) rfl ?_
  refine g_if_eqb (pc' := 121) (tgt := 128) C d_La_valueOf_118 rfl rfl (fun h => ?_) (fun h => ?_)
  · replace hf := g_bf h hf
    refine g_iconst (pc' := 129) (v := 0) C d_La_valueOf_128 rfl rfl ?_
    refine g_lv (lv' := [(0, .ref a_o), (1, .int v1), (2, .int v2), (3, .int (b2i v3)), (4, .int v4), (5, .int v5), (6, .int s0)]) [1, 2, 3, 4, 5, 6, 0] rfl ?_
    exact w_La_valueOf_L129 (a_o := a_o) (a_o_code := a_o_code) (a_o_stack := a_o_stack) C  k10 hk10 v1 v2 v3 v4 v5 s0 (0 : Int32) x_o_length x_o_top x_o_code x_o_stack hf
  · replace hf := g_bt h hf
    refine g_aload_n (pc' := 122) C 1 d_La_valueOf_121 rfl rfl ?_
    replace hf := g_bi hf; obtain ⟨⟨r14, u15⟩, hc16, hf⟩ := hf
    dsimp only at hf
    refine g_callV (pc' := 125) (st1 := [.int r14]) (ws1 := [O_La a_o a_o_code x_o_length a_o_stack u15, A_I dA a_o_code 256 x_o_code, A_I dA a_o_stack 256 x_o_stack]) C (c_La_pop (l := l) (D := D) (dA := dA) (a_o := a_o) (a_o_code := a_o_code) (a_o_stack := a_o_stack) (x_o_length := x_o_length)   hc16) yy_La_pop kf_La rfl mw_2_238 d_La_valueOf_122 rfl [] rfl rfl (Nat.le_of_ble_eq_true rfl) ⟨Nat.le_of_ble_eq_true rfl, Nat.le_of_ble_eq_true rfl⟩ rfl rfl (Nat.zero_le _) (Nat.zero_le _) 0 rfl [0, 2] rfl (by decide +kernel) rfl (g_lay_sel _ _ _ _ [(0, true), (1, false), (1, true)] (by decide +kernel) rfl (by decide +kernel) rfl rfl) rfl ?_
    refine g_goto (tgt := 129) C d_La_valueOf_125 rfl ?_
    refine g_lv (lv' := [(0, .ref a_o), (1, .int v1), (2, .int v2), (3, .int (b2i v3)), (4, .int v4), (5, .int v5), (6, .int s0)]) [1, 2, 3, 4, 5, 6, 0] rfl ?_
    exact w_La_valueOf_L129 (a_o := a_o) (a_o_code := a_o_code) (a_o_stack := a_o_stack) C  k10 hk10 v1 v2 v3 v4 v5 s0 r14 x_o_length u15 x_o_code x_o_stack hf
def f_La_valueOf_L91  (k10 : Int32 → Int32 → Bool → Int32 → Int32 → Int32 → (Nat → Int32) → (Nat → Int32) → Option (Int32 × Int32 × (Nat → Int32))) (v1 : Int32) (v2 : Int32) (v3 : Bool) (v4 : Int32) (v5 : Int32) (x_o_length : Int32) (x_o_top : Int32) (x_o_code : Nat → Int32) (x_o_stack : Nat → Int32) : Option (Int32 × Int32 × (Nat → Int32)) :=
  if v3 = true then
    ((f_Sg_takesOperands  v5).bind fun r7 =>
    if r7 = true then
      ((f_La_pop  x_o_top x_o_stack).bind fun (r9, u10) =>
      f_La_valueOf_L111 k10 v1 v2 v3 v4 v5 r9 x_o_length u10 x_o_code x_o_stack)
    else
      (f_La_valueOf_L111 k10 v1 v2 v3 v4 v5 (0 : Int32) x_o_length x_o_top x_o_code x_o_stack))
  else
    (f_La_valueOf_L162 k10 v1 v2 v3 v4 x_o_length x_o_top x_o_code x_o_stack)
set_option maxRecDepth 20000 in
theorem w_La_valueOf_L91 {p : Program} {l : Launch} {e : Env} {s : State} {m : MethodId} {args : Array Value} {below : List Frame} {meth : Method} {c : Code} {D : va_G} {dA : Nat → ClassId} {A : Nat → Prop} (C : GC p s m args meth c prog_4_method_3_code 8 "OneLamp$Law" (some .int) D dA A) {a_o a_o_code a_o_stack : Nat}  {r0 : Int32} {o_x_o_top : Int32} {o_x_o_stack : Nat → Int32}   (k10 : Int32 → Int32 → Bool → Int32 → Int32 → Int32 → (Nat → Int32) → (Nat → Int32) → Option (Int32 × Int32 × (Nat → Int32))) (hk10 : ∀ (v1 : Int32) (v2 : Int32) (v3 : Bool) (v4 : Int32) (x_o_length : Int32) (x_o_top : Int32) (x_o_code : Nat → Int32) (x_o_stack : Nat → Int32), k10 v1 v2 v3 v4 x_o_length x_o_top x_o_code x_o_stack = some (r0, o_x_o_top, o_x_o_stack) → GG p l e { frames := 2, cells := 0, slots := 0, locals := 43 } s m args below meth c 8 D A 0 0 (MQ below (cQ D A (some (.int r0)) (fun _ : Unit => [O_La a_o a_o_code x_o_length a_o_stack o_x_o_top, A_I dA a_o_code 256 x_o_code, A_I dA a_o_stack 256 o_x_o_stack])) args s 0 0 A) 10 [(0, .ref a_o), (1, .int v1), (2, .int v2), (3, .int (b2i v3)), (4, .int v4)] [] [O_La a_o a_o_code x_o_length a_o_stack x_o_top, A_I dA a_o_code 256 x_o_code, A_I dA a_o_stack 256 x_o_stack]) (v1 : Int32) (v2 : Int32) (v3 : Bool) (v4 : Int32) (v5 : Int32) (x_o_length : Int32) (x_o_top : Int32) (x_o_code : Nat → Int32) (x_o_stack : Nat → Int32) (hf : f_La_valueOf_L91  k10 v1 v2 v3 v4 v5 x_o_length x_o_top x_o_code x_o_stack = some (r0, o_x_o_top, o_x_o_stack)) : GG p l e { frames := 2, cells := 0, slots := 0, locals := 43 } s m args below meth c 8 D A 0 0 (MQ below (cQ D A (some (.int r0)) (fun _ : Unit => [O_La a_o a_o_code x_o_length a_o_stack o_x_o_top, A_I dA a_o_code 256 x_o_code, A_I dA a_o_stack 256 o_x_o_stack])) args s 0 0 A) 91 [(0, .ref a_o), (1, .int v1), (2, .int v2), (3, .int (b2i v3)), (4, .int v4), (5, .int v5)] [] [O_La a_o a_o_code x_o_length a_o_stack x_o_top, A_I dA a_o_code 256 x_o_code, A_I dA a_o_stack 256 x_o_stack] := by
  unfold f_La_valueOf_L91 at hf
  refine g_iload_n (pc' := 92) C 3 d_La_valueOf_91 rfl rfl ?_
  refine g_if_eqb (pc' := 95) (tgt := 162) C d_La_valueOf_92 rfl rfl (fun h => ?_) (fun h => ?_)
  · replace hf := g_bf h hf
    refine g_lv (lv' := [(0, .ref a_o), (1, .int v1), (2, .int v2), (3, .int (b2i v3)), (4, .int v4)]) [0, 1, 2, 3, 4] rfl ?_
    exact w_La_valueOf_L162 (a_o := a_o) (a_o_code := a_o_code) (a_o_stack := a_o_stack) C  k10 hk10 v1 v2 v3 v4 x_o_length x_o_top x_o_code x_o_stack hf
  · replace hf := g_bt h hf
    refine g_iload (pc' := 97) C 5 d_La_valueOf_95 rfl rfl ?_
    replace hf := g_bi hf; obtain ⟨r7, hc8, hf⟩ := hf
    refine g_callS (pc' := 100) (st1 := [.int (b2i r7)]) (ws1 := [O_La a_o a_o_code x_o_length a_o_stack x_o_top, A_I dA a_o_code 256 x_o_code, A_I dA a_o_stack 256 x_o_stack]) C (c_Sg_takesOperands (l := l) (D := D) (dA := dA)    hc8) yy_Sg_takesOperands mw_3_2 d_La_valueOf_97 rfl [] rfl rfl (Nat.le_of_ble_eq_true rfl) ⟨Nat.le_of_ble_eq_true rfl, Nat.le_of_ble_eq_true rfl⟩ rfl rfl (Nat.zero_le _) (Nat.zero_le _) [] rfl (by decide +kernel) rfl (g_lay_sel _ _ _ _ [(0, false), (1, false), (2, false)] (by decide +kernel) rfl (by decide +kernel) rfl rfl) rfl ?_
    refine g_if_eqb (pc' := 103) (tgt := 110) C d_La_valueOf_100 rfl rfl (fun h => ?_) (fun h => ?_)
    · replace hf := g_bf h hf
      refine g_iconst (pc' := 111) (v := 0) C d_La_valueOf_110 rfl rfl ?_
      exact w_La_valueOf_L111 (a_o := a_o) (a_o_code := a_o_code) (a_o_stack := a_o_stack) C  k10 hk10 v1 v2 v3 v4 v5 (0 : Int32) x_o_length x_o_top x_o_code x_o_stack hf
    · replace hf := g_bt h hf
      refine g_aload_n (pc' := 104) C 0 d_La_valueOf_103 rfl rfl ?_
      replace hf := g_bi hf; obtain ⟨⟨r9, u10⟩, hc11, hf⟩ := hf
      dsimp only at hf
      refine g_callV (pc' := 107) (st1 := [.int r9]) (ws1 := [O_La a_o a_o_code x_o_length a_o_stack u10, A_I dA a_o_code 256 x_o_code, A_I dA a_o_stack 256 x_o_stack]) C (c_La_pop (l := l) (D := D) (dA := dA) (a_o := a_o) (a_o_code := a_o_code) (a_o_stack := a_o_stack) (x_o_length := x_o_length)   hc11) yy_La_pop kf_La rfl mw_2_238 d_La_valueOf_104 rfl [] rfl rfl (Nat.le_of_ble_eq_true rfl) ⟨Nat.le_of_ble_eq_true rfl, Nat.le_of_ble_eq_true rfl⟩ rfl rfl (Nat.zero_le _) (Nat.zero_le _) 0 rfl [0, 2] rfl (by decide +kernel) rfl (g_lay_sel _ _ _ _ [(0, true), (1, false), (1, true)] (by decide +kernel) rfl (by decide +kernel) rfl rfl) rfl ?_
      refine g_goto (tgt := 111) C d_La_valueOf_107 rfl ?_
      exact w_La_valueOf_L111 (a_o := a_o) (a_o_code := a_o_code) (a_o_stack := a_o_stack) C  k10 hk10 v1 v2 v3 v4 v5 r9 x_o_length u10 x_o_code x_o_stack hf
def f_La_valueOf_L52  (k10 : Int32 → Int32 → Bool → Int32 → Int32 → Int32 → (Nat → Int32) → (Nat → Int32) → Option (Int32 × Int32 × (Nat → Int32))) (v1 : Int32) (v2 : Int32) (v3 : Bool) (v4 : Int32) (v5 : Int32) (x_o_length : Int32) (x_o_top : Int32) (x_o_code : Nat → Int32) (x_o_stack : Nat → Int32) : Option (Int32 × Int32 × (Nat → Int32)) :=
  if v5 = (-59 : Int32) then
    (f_La_valueOf_L162 k10 v1 v2 true v4 x_o_length x_o_top x_o_code x_o_stack)
  else
    (if v5 = (-63 : Int32) then
      (if v3 = true then
        ((f_La_pop  x_o_top x_o_stack).bind fun (r4, u5) =>
        if r4 = 0 then
          (f_La_valueOf_L87 k10 v1 v2 v4 false x_o_length u5 x_o_code x_o_stack)
        else
          (f_La_valueOf_L87 k10 v1 v2 v4 true x_o_length u5 x_o_code x_o_stack))
      else
        (f_La_valueOf_L91 k10 v1 v2 v3 v4 v5 x_o_length x_o_top x_o_code x_o_stack))
    else
      (f_La_valueOf_L91 k10 v1 v2 v3 v4 v5 x_o_length x_o_top x_o_code x_o_stack))
set_option maxRecDepth 20000 in
theorem w_La_valueOf_L52 {p : Program} {l : Launch} {e : Env} {s : State} {m : MethodId} {args : Array Value} {below : List Frame} {meth : Method} {c : Code} {D : va_G} {dA : Nat → ClassId} {A : Nat → Prop} (C : GC p s m args meth c prog_4_method_3_code 8 "OneLamp$Law" (some .int) D dA A) {a_o a_o_code a_o_stack : Nat}  {r0 : Int32} {o_x_o_top : Int32} {o_x_o_stack : Nat → Int32}   (k10 : Int32 → Int32 → Bool → Int32 → Int32 → Int32 → (Nat → Int32) → (Nat → Int32) → Option (Int32 × Int32 × (Nat → Int32))) (hk10 : ∀ (v1 : Int32) (v2 : Int32) (v3 : Bool) (v4 : Int32) (x_o_length : Int32) (x_o_top : Int32) (x_o_code : Nat → Int32) (x_o_stack : Nat → Int32), k10 v1 v2 v3 v4 x_o_length x_o_top x_o_code x_o_stack = some (r0, o_x_o_top, o_x_o_stack) → GG p l e { frames := 2, cells := 0, slots := 0, locals := 43 } s m args below meth c 8 D A 0 0 (MQ below (cQ D A (some (.int r0)) (fun _ : Unit => [O_La a_o a_o_code x_o_length a_o_stack o_x_o_top, A_I dA a_o_code 256 x_o_code, A_I dA a_o_stack 256 o_x_o_stack])) args s 0 0 A) 10 [(0, .ref a_o), (1, .int v1), (2, .int v2), (3, .int (b2i v3)), (4, .int v4)] [] [O_La a_o a_o_code x_o_length a_o_stack x_o_top, A_I dA a_o_code 256 x_o_code, A_I dA a_o_stack 256 x_o_stack]) (v1 : Int32) (v2 : Int32) (v3 : Bool) (v4 : Int32) (v5 : Int32) (x_o_length : Int32) (x_o_top : Int32) (x_o_code : Nat → Int32) (x_o_stack : Nat → Int32) (hf : f_La_valueOf_L52  k10 v1 v2 v3 v4 v5 x_o_length x_o_top x_o_code x_o_stack = some (r0, o_x_o_top, o_x_o_stack)) : GG p l e { frames := 2, cells := 0, slots := 0, locals := 43 } s m args below meth c 8 D A 0 0 (MQ below (cQ D A (some (.int r0)) (fun _ : Unit => [O_La a_o a_o_code x_o_length a_o_stack o_x_o_top, A_I dA a_o_code 256 x_o_code, A_I dA a_o_stack 256 o_x_o_stack])) args s 0 0 A) 52 [(0, .ref a_o), (1, .int v1), (2, .int v2), (3, .int (b2i v3)), (4, .int v4), (5, .int v5)] [] [O_La a_o a_o_code x_o_length a_o_stack x_o_top, A_I dA a_o_code 256 x_o_code, A_I dA a_o_stack 256 x_o_stack] := by
  unfold f_La_valueOf_L52 at hf
  refine g_iload (pc' := 54) C 5 d_La_valueOf_52 rfl rfl ?_
  refine g_bipush (pc' := 56) (v := (-59)) C d_La_valueOf_54 rfl rfl ?_
  refine g_icmp_ne (pc' := 59) (tgt := 64) C d_La_valueOf_56 rfl rfl (fun h => ?_) (fun h => ?_)
  · replace hf := g_in h hf
    refine g_iload (pc' := 66) C 5 d_La_valueOf_64 rfl rfl ?_
    refine g_bipush (pc' := 68) (v := (-63)) C d_La_valueOf_66 rfl rfl ?_
    refine g_icmp_ne (pc' := 71) (tgt := 91) C d_La_valueOf_68 rfl rfl (fun h => ?_) (fun h => ?_)
    · replace hf := g_in h hf
      exact w_La_valueOf_L91 (a_o := a_o) (a_o_code := a_o_code) (a_o_stack := a_o_stack) C  k10 hk10 v1 v2 v3 v4 v5 x_o_length x_o_top x_o_code x_o_stack hf
    · replace hf := g_ip h hf
      refine g_iload_n (pc' := 72) C 3 d_La_valueOf_71 rfl rfl ?_
      refine g_if_eqb (pc' := 75) (tgt := 91) C d_La_valueOf_72 rfl rfl (fun h => ?_) (fun h => ?_)
      · replace hf := g_bf h hf
        exact w_La_valueOf_L91 (a_o := a_o) (a_o_code := a_o_code) (a_o_stack := a_o_stack) C  k10 hk10 v1 v2 v3 v4 v5 x_o_length x_o_top x_o_code x_o_stack hf
      · replace hf := g_bt h hf
        refine g_aload_n (pc' := 76) C 0 d_La_valueOf_75 rfl rfl ?_
        replace hf := g_bi hf; obtain ⟨⟨r4, u5⟩, hc6, hf⟩ := hf
        dsimp only at hf
        refine g_callV (pc' := 79) (st1 := [.int r4]) (ws1 := [O_La a_o a_o_code x_o_length a_o_stack u5, A_I dA a_o_code 256 x_o_code, A_I dA a_o_stack 256 x_o_stack]) C (c_La_pop (l := l) (D := D) (dA := dA) (a_o := a_o) (a_o_code := a_o_code) (a_o_stack := a_o_stack) (x_o_length := x_o_length)   hc6) yy_La_pop kf_La rfl mw_2_238 d_La_valueOf_76 rfl [] rfl rfl (Nat.le_of_ble_eq_true rfl) ⟨Nat.le_of_ble_eq_true rfl, Nat.le_of_ble_eq_true rfl⟩ rfl rfl (Nat.zero_le _) (Nat.zero_le _) 0 rfl [0, 2] rfl (by decide +kernel) rfl (g_lay_sel _ _ _ _ [(0, true), (1, false), (1, true)] (by decide +kernel) rfl (by decide +kernel) rfl rfl) rfl ?_
        refine g_if_eq (pc' := 82) (tgt := 86) C d_La_valueOf_79 rfl rfl (fun h => ?_) (fun h => ?_)
        · replace hf := g_ip h hf
          refine g_iconst (pc' := 87) (v := 0) C d_La_valueOf_86 rfl rfl ?_
          refine g_lv (lv' := [(0, .ref a_o), (1, .int v1), (2, .int v2), (4, .int v4)]) [0, 1, 2, 4] rfl ?_
          exact w_La_valueOf_L87 (a_o := a_o) (a_o_code := a_o_code) (a_o_stack := a_o_stack) C  k10 hk10 v1 v2 v4 false x_o_length u5 x_o_code x_o_stack hf
        · replace hf := g_in h hf
          refine g_iconst (pc' := 83) (v := 1) C d_La_valueOf_82 rfl rfl ?_
          refine g_goto (tgt := 87) C d_La_valueOf_83 rfl ?_
          refine g_lv (lv' := [(0, .ref a_o), (1, .int v1), (2, .int v2), (4, .int v4)]) [0, 1, 2, 4] rfl ?_
          exact w_La_valueOf_L87 (a_o := a_o) (a_o_code := a_o_code) (a_o_stack := a_o_stack) C  k10 hk10 v1 v2 v4 true x_o_length u5 x_o_code x_o_stack hf
  · replace hf := g_ip h hf
    refine g_iconst (pc' := 60) (v := 1) C d_La_valueOf_59 rfl rfl ?_
    refine g_istore_n (pc' := 61) (lv' := [(3, .int 1), (0, .ref a_o), (1, .int v1), (2, .int v2), (4, .int v4), (5, .int v5)]) C d_La_valueOf_60 rfl (by decide) rfl ?_
    refine g_goto (tgt := 162) C d_La_valueOf_61 rfl ?_
    refine g_lv (lv' := [(0, .ref a_o), (1, .int v1), (2, .int v2), (3, .int (b2i true)), (4, .int v4)]) [1, 2, 3, 0, 4] rfl ?_
    exact w_La_valueOf_L162 (a_o := a_o) (a_o_code := a_o_code) (a_o_stack := a_o_stack) C  k10 hk10 v1 v2 true v4 x_o_length x_o_top x_o_code x_o_stack hf
def f_La_valueOf_L10   : Nat → Int32 → Int32 → Bool → Int32 → Int32 → Int32 → (Nat → Int32) → (Nat → Int32) → Option (Int32 × Int32 × (Nat → Int32))
  | 0, _, _, _, _, _, _, _, _ => none
  | n + 1, v1, v2, v3, v4, x_o_length, x_o_top, x_o_code, x_o_stack =>
    if x_o_length ≤ v4 then
      (some ((0 : Int32), x_o_top, x_o_stack))
    else
      (if (256 : Int32) ≤ v4 then
        (some ((0 : Int32), x_o_top, x_o_stack))
      else
        (if v4 < 0 ∨ 256 ≤ Int32.toNatClampNeg v4 then none else
        if (x_o_code (Int32.toNatClampNeg v4)) = (-59 : Int32) then
          (if v3 = true then
            ((f_La_pop  x_o_top x_o_stack).bind fun (r1, u2) =>
            some (r1, u2, x_o_stack))
          else
            (f_La_valueOf_L52 (f_La_valueOf_L10  n) v1 v2 v3 v4 (x_o_code (Int32.toNatClampNeg v4)) x_o_length x_o_top x_o_code x_o_stack))
        else
          (f_La_valueOf_L52 (f_La_valueOf_L10  n) v1 v2 v3 v4 (x_o_code (Int32.toNatClampNeg v4)) x_o_length x_o_top x_o_code x_o_stack)))
set_option maxRecDepth 20000 in
theorem w_La_valueOf_L10 {p : Program} {l : Launch} {e : Env} {s : State} {m : MethodId} {args : Array Value} {below : List Frame} {meth : Method} {c : Code} {D : va_G} {dA : Nat → ClassId} {A : Nat → Prop} (C : GC p s m args meth c prog_4_method_3_code 8 "OneLamp$Law" (some .int) D dA A) {a_o a_o_code a_o_stack : Nat}  {r0 : Int32} {o_x_o_top : Int32} {o_x_o_stack : Nat → Int32}    : ∀ (n : Nat) (v1 : Int32) (v2 : Int32) (v3 : Bool) (v4 : Int32) (x_o_length : Int32) (x_o_top : Int32) (x_o_code : Nat → Int32) (x_o_stack : Nat → Int32), f_La_valueOf_L10   n v1 v2 v3 v4 x_o_length x_o_top x_o_code x_o_stack = some (r0, o_x_o_top, o_x_o_stack) → GG p l e { frames := 2, cells := 0, slots := 0, locals := 43 } s m args below meth c 8 D A 0 0 (MQ below (cQ D A (some (.int r0)) (fun _ : Unit => [O_La a_o a_o_code x_o_length a_o_stack o_x_o_top, A_I dA a_o_code 256 x_o_code, A_I dA a_o_stack 256 o_x_o_stack])) args s 0 0 A) 10 [(0, .ref a_o), (1, .int v1), (2, .int v2), (3, .int (b2i v3)), (4, .int v4)] [] [O_La a_o a_o_code x_o_length a_o_stack x_o_top, A_I dA a_o_code 256 x_o_code, A_I dA a_o_stack 256 x_o_stack] := by
  intro n
  induction n with
  | zero =>
    intro v1 v2 v3 v4 x_o_length x_o_top x_o_code x_o_stack hf
    cases hf
  | succ n ih =>
    intro v1 v2 v3 v4 x_o_length x_o_top x_o_code x_o_stack hf
    unfold f_La_valueOf_L10 at hf
    refine g_iload (pc' := 12) C 4 d_La_valueOf_10 rfl rfl ?_
    refine g_aload_n (pc' := 13) C 0 d_La_valueOf_12 rfl rfl ?_
    refine g_get (pc' := 16) C kf_La 1 mw_1_116 d_La_valueOf_13 rfl 0 rfl (by decide) rfl ?_
    refine g_icmp_ge (pc' := 19) (tgt := 168) C d_La_valueOf_16 rfl rfl (fun h => ?_) (fun h => ?_)
    · replace hf := g_ip h hf
      refine g_iconst (pc' := 169) (v := 0) C d_La_valueOf_168 rfl rfl ?_
      replace hf := g_o2 hf; obtain ⟨h1, hf⟩ := hf; subst h1
      replace hf := g_o2 hf; obtain ⟨h1, hf⟩ := hf; subst h1
      replace hf := Option.some.inj hf; subst hf
      exact g_iret C d_La_valueOf_169 () rfl
    · replace hf := g_in h hf
      refine g_iload (pc' := 21) C 4 d_La_valueOf_19 rfl rfl ?_
      refine g_sipush (pc' := 24) (v := 256) C d_La_valueOf_21 rfl rfl ?_
      refine g_icmp_ge (pc' := 27) (tgt := 168) C d_La_valueOf_24 rfl rfl (fun h => ?_) (fun h => ?_)
      · replace hf := g_ip h hf
        refine g_iconst (pc' := 169) (v := 0) C d_La_valueOf_168 rfl rfl ?_
        replace hf := g_o2 hf; obtain ⟨h1, hf⟩ := hf; subst h1
        replace hf := g_o2 hf; obtain ⟨h1, hf⟩ := hf; subst h1
        replace hf := Option.some.inj hf; subst hf
        exact g_iret C d_La_valueOf_169 () rfl
      · replace hf := g_in h hf
        refine g_aload_n (pc' := 28) C 0 d_La_valueOf_27 rfl rfl ?_
        refine g_get (pc' := 31) C kf_La 0 mw_1_115 d_La_valueOf_28 rfl 0 rfl (by decide) rfl ?_
        refine g_iload (pc' := 33) C 4 d_La_valueOf_31 rfl rfl ?_
        have hb := g_ck hf
        replace hf := g_in hb hf
        refine g_iald (pc' := 34) C d_La_valueOf_33 rfl 1 rfl hb ?_
        refine g_istore (pc' := 36) (lv' := [(5, .int (x_o_code (Int32.toNatClampNeg v4))), (0, .ref a_o), (1, .int v1), (2, .int v2), (3, .int (b2i v3)), (4, .int v4)]) C d_La_valueOf_34 rfl (by decide) rfl ?_
        refine g_iload (pc' := 38) C 0 d_La_valueOf_36 rfl rfl ?_
        refine g_bipush (pc' := 40) (v := (-59)) C d_La_valueOf_38 rfl rfl ?_
        refine g_icmp_ne (pc' := 43) (tgt := 52) C d_La_valueOf_40 rfl rfl (fun h => ?_) (fun h => ?_)
        · replace hf := g_in h hf
          refine g_lv (lv' := [(0, .ref a_o), (1, .int v1), (2, .int v2), (3, .int (b2i v3)), (4, .int v4), (5, .int (x_o_code (Int32.toNatClampNeg v4)))]) [1, 2, 3, 4, 5, 0] rfl ?_
          exact w_La_valueOf_L52 (a_o := a_o) (a_o_code := a_o_code) (a_o_stack := a_o_stack) C  (f_La_valueOf_L10  n) ih v1 v2 v3 v4 (x_o_code (Int32.toNatClampNeg v4)) x_o_length x_o_top x_o_code x_o_stack hf
        · replace hf := g_ip h hf
          refine g_iload_n (pc' := 44) C 4 d_La_valueOf_43 rfl rfl ?_
          refine g_if_eqb (pc' := 47) (tgt := 52) C d_La_valueOf_44 rfl rfl (fun h => ?_) (fun h => ?_)
          · replace hf := g_bf h hf
            refine g_lv (lv' := [(0, .ref a_o), (1, .int v1), (2, .int v2), (3, .int (b2i v3)), (4, .int v4), (5, .int (x_o_code (Int32.toNatClampNeg v4)))]) [1, 2, 3, 4, 5, 0] rfl ?_
            exact w_La_valueOf_L52 (a_o := a_o) (a_o_code := a_o_code) (a_o_stack := a_o_stack) C  (f_La_valueOf_L10  n) ih v1 v2 v3 v4 (x_o_code (Int32.toNatClampNeg v4)) x_o_length x_o_top x_o_code x_o_stack hf
          · replace hf := g_bt h hf
            refine g_aload_n (pc' := 48) C 1 d_La_valueOf_47 rfl rfl ?_
            replace hf := g_bi hf; obtain ⟨⟨r1, u2⟩, hc3, hf⟩ := hf
            dsimp only at hf
            refine g_callV (pc' := 51) (st1 := [.int r1]) (ws1 := [O_La a_o a_o_code x_o_length a_o_stack u2, A_I dA a_o_code 256 x_o_code, A_I dA a_o_stack 256 x_o_stack]) C (c_La_pop (l := l) (D := D) (dA := dA) (a_o := a_o) (a_o_code := a_o_code) (a_o_stack := a_o_stack) (x_o_length := x_o_length)   hc3) yy_La_pop kf_La rfl mw_2_238 d_La_valueOf_48 rfl [] rfl rfl (Nat.le_of_ble_eq_true rfl) ⟨Nat.le_of_ble_eq_true rfl, Nat.le_of_ble_eq_true rfl⟩ rfl rfl (Nat.zero_le _) (Nat.zero_le _) 0 rfl [0, 2] rfl (by decide +kernel) rfl (g_lay_sel _ _ _ _ [(0, true), (1, false), (1, true)] (by decide +kernel) rfl (by decide +kernel) rfl rfl) rfl ?_
            replace hf := g_o2 hf; obtain ⟨h1, hf⟩ := hf; subst h1
            replace hf := g_o2 hf; obtain ⟨h1, hf⟩ := hf; subst h1
            replace hf := Option.some.inj hf; subst hf
            exact g_iret C d_La_valueOf_51 () rfl
def f_La_valueOf  (p1 : Int32) (p2 : Int32) (x_o_length : Int32) (x_o_top : Int32) (x_o_code : Nat → Int32) (x_o_stack : Nat → Int32) : Option (Int32 × Int32 × (Nat → Int32)) :=
  f_La_valueOf_L10  3000 p1 p2 true (0 : Int32) x_o_length (0 : Int32) x_o_code x_o_stack
set_option maxRecDepth 20000 in
theorem c_La_valueOf {l : Launch} {D : va_G} {dA : Nat → ClassId} {a_o a_o_code a_o_stack : Nat}  {p1 : Int32} {p2 : Int32} {x_o_length : Int32} {x_o_top : Int32} {x_o_code : Nat → Int32} {x_o_stack : Nat → Int32} {r0 : Int32} {o_x_o_top : Int32} {o_x_o_stack : Nat → Int32}   (hf : f_La_valueOf  p1 p2 x_o_length x_o_top x_o_code x_o_stack = some (r0, o_x_o_top, o_x_o_stack)) : CT l y_La_valueOf prog_4_method_3_code 8 (some .int) { frames := 2, cells := 0, slots := 0, locals := 43 } D dA [.ref a_o, .int p1, .int p2] [O_La a_o a_o_code x_o_length a_o_stack x_o_top, A_I dA a_o_code 256 x_o_code, A_I dA a_o_stack 256 x_o_stack] (some (.int r0)) (fun _ : Unit => [O_La a_o a_o_code x_o_length a_o_stack o_x_o_top, A_I dA a_o_code 256 x_o_code, A_I dA a_o_stack 256 o_x_o_stack]) := by
  refine ct_intro "OneLamp$Law" rfl (by decide +kernel) (Nat.le_of_ble_eq_true rfl) [(0, .ref a_o), (1, .int p1), (2, .int p2)] rfl (fun _ C => ?_)
  unfold f_La_valueOf at hf
  refine g_aload_n (pc' := 1) C 0 d_La_valueOf_0 rfl rfl ?_
  refine g_iconst (pc' := 2) (v := 0) C d_La_valueOf_1 rfl rfl ?_
  refine g_put (pc' := 5) (ws' := [O_La a_o a_o_code x_o_length a_o_stack (0 : Int32), A_I dA a_o_code 256 x_o_code, A_I dA a_o_stack 256 x_o_stack]) C kf_La 3 mw_1_118 d_La_valueOf_2 rfl 0 rfl (by decide) rfl rfl rfl (Nat.le_of_ble_eq_true rfl) rfl ?_
  refine g_iconst (pc' := 6) (v := 1) C d_La_valueOf_5 rfl rfl ?_
  refine g_istore_n (pc' := 7) (lv' := [(3, .int 1), (0, .ref a_o), (1, .int p1), (2, .int p2)]) C d_La_valueOf_6 rfl (by decide) rfl ?_
  refine g_iconst (pc' := 8) (v := 0) C d_La_valueOf_7 rfl rfl ?_
  refine g_istore (pc' := 10) (lv' := [(4, .int 0), (3, .int 1), (0, .ref a_o), (1, .int p1), (2, .int p2)]) C d_La_valueOf_8 rfl (by decide) rfl ?_
  refine g_lv (lv' := [(0, .ref a_o), (1, .int p1), (2, .int p2), (3, .int (b2i true)), (4, .int (0 : Int32))]) [2, 3, 4, 1, 0] rfl ?_
  exact w_La_valueOf_L10 (a_o := a_o) (a_o_code := a_o_code) (a_o_stack := a_o_stack) C   3000 p1 p2 true (0 : Int32) x_o_length (0 : Int32) x_o_code x_o_stack hf
