def y_Ta_add : MethodName := ⟨"OneLamp$Tape", "add", "(I)Z"⟩
theorem yy_Ta_add : YV y_Ta_add prog_9_method_2_code 2 (some .boolean) 1 := ⟨mw_2_126, mw_1_7, mw_2_124, mw_2_125, by decide +kernel, by decide +kernel, by decide +kernel⟩
theorem d_Ta_add_0 : decode prog_9_method_2_code 0 = .ok (.aload_n 0, 1) := by decide +kernel
theorem d_Ta_add_1 : decode prog_9_method_2_code 1 = .ok (.getfield 18, 3) := by decide +kernel
theorem d_Ta_add_4 : decode prog_9_method_2_code 4 = .ok (.ifCond .lt 12, 3) := by decide +kernel
theorem d_Ta_add_7 : decode prog_9_method_2_code 7 = .ok (.aload_n 0, 1) := by decide +kernel
theorem d_Ta_add_8 : decode prog_9_method_2_code 8 = .ok (.getfield 18, 3) := by decide +kernel
theorem d_Ta_add_11 : decode prog_9_method_2_code 11 = .ok (.bipush 120, 2) := by decide +kernel
theorem d_Ta_add_13 : decode prog_9_method_2_code 13 = .ok (.if_icmp .lt 5, 3) := by decide +kernel
theorem d_Ta_add_16 : decode prog_9_method_2_code 16 = .ok (.iconst 0, 1) := by decide +kernel
theorem d_Ta_add_17 : decode prog_9_method_2_code 17 = .ok (.ireturn, 1) := by decide +kernel
theorem d_Ta_add_18 : decode prog_9_method_2_code 18 = .ok (.aload_n 0, 1) := by decide +kernel
theorem d_Ta_add_19 : decode prog_9_method_2_code 19 = .ok (.getfield 9, 3) := by decide +kernel
theorem d_Ta_add_22 : decode prog_9_method_2_code 22 = .ok (.aload_n 0, 1) := by decide +kernel
theorem d_Ta_add_23 : decode prog_9_method_2_code 23 = .ok (.getfield 18, 3) := by decide +kernel
theorem d_Ta_add_26 : decode prog_9_method_2_code 26 = .ok (.iload_n 1, 1) := by decide +kernel
theorem d_Ta_add_27 : decode prog_9_method_2_code 27 = .ok (.iastore, 1) := by decide +kernel
theorem d_Ta_add_28 : decode prog_9_method_2_code 28 = .ok (.aload_n 0, 1) := by decide +kernel
theorem d_Ta_add_29 : decode prog_9_method_2_code 29 = .ok (.dup, 1) := by decide +kernel
theorem d_Ta_add_30 : decode prog_9_method_2_code 30 = .ok (.getfield 18, 3) := by decide +kernel
theorem d_Ta_add_33 : decode prog_9_method_2_code 33 = .ok (.iconst 1, 1) := by decide +kernel
theorem d_Ta_add_34 : decode prog_9_method_2_code 34 = .ok (.iadd, 1) := by decide +kernel
theorem d_Ta_add_35 : decode prog_9_method_2_code 35 = .ok (.putfield 18, 3) := by decide +kernel
theorem d_Ta_add_38 : decode prog_9_method_2_code 38 = .ok (.iconst 1, 1) := by decide +kernel
theorem d_Ta_add_39 : decode prog_9_method_2_code 39 = .ok (.ireturn, 1) := by decide +kernel
def f_Ta_add  (p1 : Int32) (x_o_length : Int32) (x_o_letters : Nat → Int32) : Option (Bool × Int32 × (Nat → Int32)) :=
  if x_o_length < 0 then
    (some (false, x_o_length, x_o_letters))
  else
    (if x_o_length < (120 : Int32) then
      (if x_o_length < 0 ∨ 120 ≤ Int32.toNatClampNeg x_o_length then none else
      some (true, (x_o_length + (1 : Int32)), (upd x_o_letters (Int32.toNatClampNeg x_o_length) p1)))
    else
      (some (false, x_o_length, x_o_letters)))
set_option maxRecDepth 20000 in
theorem c_Ta_add {l : Launch} {D : va_G} {dA : Nat → ClassId} {a_o a_o_letters a_o_code : Nat} {x_o_codeLength : Int32} {x_o_at : Int32} {p1 : Int32} {x_o_length : Int32} {x_o_letters : Nat → Int32} {r0 : Bool} {o_x_o_length : Int32} {o_x_o_letters : Nat → Int32}   (hf : f_Ta_add  p1 x_o_length x_o_letters = some (r0, o_x_o_length, o_x_o_letters)) : CT l y_Ta_add prog_9_method_2_code 2 (some .boolean) { frames := 0, cells := 0, slots := 0, locals := 0 } D dA [.ref a_o, .int p1] [O_Ta a_o a_o_letters x_o_length a_o_code x_o_codeLength x_o_at, A_I dA a_o_letters 120 x_o_letters] (some (.int (b2i r0))) (fun _ : Unit => [O_Ta a_o a_o_letters o_x_o_length a_o_code x_o_codeLength x_o_at, A_I dA a_o_letters 120 o_x_o_letters]) := by
  refine ct_intro "OneLamp$Tape" rfl (by decide +kernel) (Nat.le_of_ble_eq_true rfl) [(0, .ref a_o), (1, .int p1)] rfl (fun _ C => ?_)
  unfold f_Ta_add at hf
  refine g_aload_n (pc' := 1) C 0 d_Ta_add_0 rfl rfl ?_
  refine g_get (pc' := 4) C kf_Ta 1 mw_1_158 d_Ta_add_1 rfl 0 rfl (by decide) rfl ?_
  refine g_if_lt (pc' := 7) (tgt := 16) C d_Ta_add_4 rfl rfl (fun h => ?_) (fun h => ?_)
  · replace hf := g_ip h hf
    refine g_iconst (pc' := 17) (v := 0) C d_Ta_add_16 rfl rfl ?_
    replace hf := g_o2 hf; obtain ⟨h1, hf⟩ := hf; subst h1
    replace hf := g_o2 hf; obtain ⟨h1, hf⟩ := hf; subst h1
    replace hf := Option.some.inj hf; subst hf
    exact g_zret C d_Ta_add_17 () rfl
  · replace hf := g_in h hf
    refine g_aload_n (pc' := 8) C 0 d_Ta_add_7 rfl rfl ?_
    refine g_get (pc' := 11) C kf_Ta 1 mw_1_158 d_Ta_add_8 rfl 0 rfl (by decide) rfl ?_
    refine g_bipush (pc' := 13) (v := 120) C d_Ta_add_11 rfl rfl ?_
    refine g_icmp_lt (pc' := 16) (tgt := 18) C d_Ta_add_13 rfl rfl (fun h => ?_) (fun h => ?_)
    · replace hf := g_ip h hf
      refine g_aload_n (pc' := 19) C 0 d_Ta_add_18 rfl rfl ?_
      refine g_get (pc' := 22) C kf_Ta 0 mw_1_157 d_Ta_add_19 rfl 0 rfl (by decide) rfl ?_
      refine g_aload_n (pc' := 23) C 0 d_Ta_add_22 rfl rfl ?_
      refine g_get (pc' := 26) C kf_Ta 1 mw_1_158 d_Ta_add_23 rfl 0 rfl (by decide) rfl ?_
      refine g_iload_n (pc' := 27) C 1 d_Ta_add_26 rfl rfl ?_
      have hb := g_ck hf
      replace hf := g_in hb hf
      refine g_iast (pc' := 28) (ws' := [O_Ta a_o a_o_letters x_o_length a_o_code x_o_codeLength x_o_at, A_I dA a_o_letters 120 (upd x_o_letters (Int32.toNatClampNeg x_o_length) p1)]) C d_Ta_add_27 rfl 1 rfl hb rfl ?_
      refine g_aload_n (pc' := 29) C 0 d_Ta_add_28 rfl rfl ?_
      refine g_dup (pc' := 30) C d_Ta_add_29 rfl rfl ?_
      refine g_get (pc' := 33) C kf_Ta 1 mw_1_158 d_Ta_add_30 rfl 0 rfl (by decide) rfl ?_
      refine g_iconst (pc' := 34) (v := 1) C d_Ta_add_33 rfl rfl ?_
      refine g_iadd (pc' := 35) C d_Ta_add_34 rfl ?_
      refine g_put (pc' := 38) (ws' := [O_Ta a_o a_o_letters (x_o_length + (1 : Int32)) a_o_code x_o_codeLength x_o_at, A_I dA a_o_letters 120 (upd x_o_letters (Int32.toNatClampNeg x_o_length) p1)]) C kf_Ta 1 mw_1_158 d_Ta_add_35 rfl 0 rfl (by decide) rfl rfl rfl (Nat.le_of_ble_eq_true rfl) rfl ?_
      refine g_iconst (pc' := 39) (v := 1) C d_Ta_add_38 rfl rfl ?_
      replace hf := g_o2 hf; obtain ⟨h1, hf⟩ := hf; subst h1
      replace hf := g_o2 hf; obtain ⟨h1, hf⟩ := hf; subst h1
      replace hf := Option.some.inj hf; subst hf
      exact g_zret C d_Ta_add_39 () rfl
    · replace hf := g_in h hf
      refine g_iconst (pc' := 17) (v := 0) C d_Ta_add_16 rfl rfl ?_
      replace hf := g_o2 hf; obtain ⟨h1, hf⟩ := hf; subst h1
      replace hf := g_o2 hf; obtain ⟨h1, hf⟩ := hf; subst h1
      replace hf := Option.some.inj hf; subst hf
      exact g_zret C d_Ta_add_17 () rfl
def y_Ta_letter : MethodName := ⟨"OneLamp$Tape", "letter", "()I"⟩
theorem yy_Ta_letter : YV y_Ta_letter prog_9_method_5_code 1 (some .int) 0 := ⟨mw_2_148, mw_1_7, mw_2_147, tm_s (y := y_Ta_letter) (n := 5) (by decide +kernel), by decide +kernel, by decide +kernel, by decide +kernel⟩
theorem d_Ta_letter_0 : decode prog_9_method_5_code 0 = .ok (.aload_n 0, 1) := by decide +kernel
theorem d_Ta_letter_1 : decode prog_9_method_5_code 1 = .ok (.getfield 22, 3) := by decide +kernel
theorem d_Ta_letter_4 : decode prog_9_method_5_code 4 = .ok (.ifCond .lt 35, 3) := by decide +kernel
theorem d_Ta_letter_7 : decode prog_9_method_5_code 7 = .ok (.aload_n 0, 1) := by decide +kernel
theorem d_Ta_letter_8 : decode prog_9_method_5_code 8 = .ok (.getfield 22, 3) := by decide +kernel
theorem d_Ta_letter_11 : decode prog_9_method_5_code 11 = .ok (.aload_n 0, 1) := by decide +kernel
theorem d_Ta_letter_12 : decode prog_9_method_5_code 12 = .ok (.getfield 18, 3) := by decide +kernel
theorem d_Ta_letter_15 : decode prog_9_method_5_code 15 = .ok (.if_icmp .ge 24, 3) := by decide +kernel
theorem d_Ta_letter_18 : decode prog_9_method_5_code 18 = .ok (.aload_n 0, 1) := by decide +kernel
theorem d_Ta_letter_19 : decode prog_9_method_5_code 19 = .ok (.getfield 22, 3) := by decide +kernel
theorem d_Ta_letter_22 : decode prog_9_method_5_code 22 = .ok (.bipush 120, 2) := by decide +kernel
theorem d_Ta_letter_24 : decode prog_9_method_5_code 24 = .ok (.if_icmp .ge 15, 3) := by decide +kernel
theorem d_Ta_letter_27 : decode prog_9_method_5_code 27 = .ok (.aload_n 0, 1) := by decide +kernel
theorem d_Ta_letter_28 : decode prog_9_method_5_code 28 = .ok (.getfield 9, 3) := by decide +kernel
theorem d_Ta_letter_31 : decode prog_9_method_5_code 31 = .ok (.aload_n 0, 1) := by decide +kernel
theorem d_Ta_letter_32 : decode prog_9_method_5_code 32 = .ok (.getfield 22, 3) := by decide +kernel
theorem d_Ta_letter_35 : decode prog_9_method_5_code 35 = .ok (.iaload, 1) := by decide +kernel
theorem d_Ta_letter_36 : decode prog_9_method_5_code 36 = .ok (.goto 4, 3) := by decide +kernel
theorem d_Ta_letter_39 : decode prog_9_method_5_code 39 = .ok (.iconst (-1), 1) := by decide +kernel
theorem d_Ta_letter_40 : decode prog_9_method_5_code 40 = .ok (.ireturn, 1) := by decide +kernel
def f_Ta_letter  (x_o_length : Int32) (x_o_at : Int32) (x_o_letters : Nat → Int32) : Option (Int32) :=
  if x_o_at < 0 then
    (some ((-1 : Int32)))
  else
    (if x_o_length ≤ x_o_at then
      (some ((-1 : Int32)))
    else
      (if (120 : Int32) ≤ x_o_at then
        (some ((-1 : Int32)))
      else
        (if x_o_at < 0 ∨ 120 ≤ Int32.toNatClampNeg x_o_at then none else
        some ((x_o_letters (Int32.toNatClampNeg x_o_at))))))
set_option maxRecDepth 20000 in
theorem c_Ta_letter {l : Launch} {D : va_G} {dA : Nat → ClassId} {a_o a_o_letters a_o_code : Nat} {x_o_codeLength : Int32} {x_o_length : Int32} {x_o_at : Int32} {x_o_letters : Nat → Int32} {r0 : Int32}   (hf : f_Ta_letter  x_o_length x_o_at x_o_letters = some r0) : CT l y_Ta_letter prog_9_method_5_code 1 (some .int) { frames := 0, cells := 0, slots := 0, locals := 0 } D dA [.ref a_o] [O_Ta a_o a_o_letters x_o_length a_o_code x_o_codeLength x_o_at, A_I dA a_o_letters 120 x_o_letters] (some (.int r0)) (fun _ : Unit => [O_Ta a_o a_o_letters x_o_length a_o_code x_o_codeLength x_o_at, A_I dA a_o_letters 120 x_o_letters]) := by
  refine ct_intro "OneLamp$Tape" rfl (by decide +kernel) (Nat.le_of_ble_eq_true rfl) [(0, .ref a_o)] rfl (fun _ C => ?_)
  unfold f_Ta_letter at hf
  refine g_aload_n (pc' := 1) C 0 d_Ta_letter_0 rfl rfl ?_
  refine g_get (pc' := 4) C kf_Ta 4 mw_1_164 d_Ta_letter_1 rfl 0 rfl (by decide) rfl ?_
  refine g_if_lt (pc' := 7) (tgt := 39) C d_Ta_letter_4 rfl rfl (fun h => ?_) (fun h => ?_)
  · replace hf := g_ip h hf
    refine g_iconst (pc' := 40) (v := (-1)) C d_Ta_letter_39 rfl rfl ?_
    replace hf := Option.some.inj hf; subst hf
    exact g_iret C d_Ta_letter_40 () rfl
  · replace hf := g_in h hf
    refine g_aload_n (pc' := 8) C 0 d_Ta_letter_7 rfl rfl ?_
    refine g_get (pc' := 11) C kf_Ta 4 mw_1_164 d_Ta_letter_8 rfl 0 rfl (by decide) rfl ?_
    refine g_aload_n (pc' := 12) C 0 d_Ta_letter_11 rfl rfl ?_
    refine g_get (pc' := 15) C kf_Ta 1 mw_1_158 d_Ta_letter_12 rfl 0 rfl (by decide) rfl ?_
    refine g_icmp_ge (pc' := 18) (tgt := 39) C d_Ta_letter_15 rfl rfl (fun h => ?_) (fun h => ?_)
    · replace hf := g_ip h hf
      refine g_iconst (pc' := 40) (v := (-1)) C d_Ta_letter_39 rfl rfl ?_
      replace hf := Option.some.inj hf; subst hf
      exact g_iret C d_Ta_letter_40 () rfl
    · replace hf := g_in h hf
      refine g_aload_n (pc' := 19) C 0 d_Ta_letter_18 rfl rfl ?_
      refine g_get (pc' := 22) C kf_Ta 4 mw_1_164 d_Ta_letter_19 rfl 0 rfl (by decide) rfl ?_
      refine g_bipush (pc' := 24) (v := 120) C d_Ta_letter_22 rfl rfl ?_
      refine g_icmp_ge (pc' := 27) (tgt := 39) C d_Ta_letter_24 rfl rfl (fun h => ?_) (fun h => ?_)
      · replace hf := g_ip h hf
        refine g_iconst (pc' := 40) (v := (-1)) C d_Ta_letter_39 rfl rfl ?_
        replace hf := Option.some.inj hf; subst hf
        exact g_iret C d_Ta_letter_40 () rfl
      · replace hf := g_in h hf
        refine g_aload_n (pc' := 28) C 0 d_Ta_letter_27 rfl rfl ?_
        refine g_get (pc' := 31) C kf_Ta 0 mw_1_157 d_Ta_letter_28 rfl 0 rfl (by decide) rfl ?_
        refine g_aload_n (pc' := 32) C 0 d_Ta_letter_31 rfl rfl ?_
        refine g_get (pc' := 35) C kf_Ta 4 mw_1_164 d_Ta_letter_32 rfl 0 rfl (by decide) rfl ?_
        have hb := g_ck hf
        replace hf := g_in hb hf
        refine g_iald (pc' := 36) C d_Ta_letter_35 rfl 1 rfl hb ?_
        refine g_goto (tgt := 40) C d_Ta_letter_36 rfl ?_
        replace hf := Option.some.inj hf; subst hf
        exact g_iret C d_Ta_letter_40 () rfl
def y_Ta_isDigit : MethodName := ⟨"OneLamp$Tape", "isDigit", "(I)Z"⟩
theorem yy_Ta_isDigit : YS y_Ta_isDigit prog_9_method_11_code 1 (some .boolean) 1 := ⟨mw_2_151, mw_1_7, mw_2_150, by decide +kernel, by decide +kernel, by decide +kernel⟩
theorem d_Ta_isDigit_0 : decode prog_9_method_11_code 0 = .ok (.iload_n 0, 1) := by decide +kernel
theorem d_Ta_isDigit_1 : decode prog_9_method_11_code 1 = .ok (.bipush 48, 2) := by decide +kernel
theorem d_Ta_isDigit_3 : decode prog_9_method_11_code 3 = .ok (.if_icmp .lt 13, 3) := by decide +kernel
theorem d_Ta_isDigit_6 : decode prog_9_method_11_code 6 = .ok (.iload_n 0, 1) := by decide +kernel
theorem d_Ta_isDigit_7 : decode prog_9_method_11_code 7 = .ok (.bipush 57, 2) := by decide +kernel
theorem d_Ta_isDigit_9 : decode prog_9_method_11_code 9 = .ok (.if_icmp .gt 7, 3) := by decide +kernel
theorem d_Ta_isDigit_12 : decode prog_9_method_11_code 12 = .ok (.iconst 1, 1) := by decide +kernel
theorem d_Ta_isDigit_13 : decode prog_9_method_11_code 13 = .ok (.goto 4, 3) := by decide +kernel
theorem d_Ta_isDigit_16 : decode prog_9_method_11_code 16 = .ok (.iconst 0, 1) := by decide +kernel
theorem d_Ta_isDigit_17 : decode prog_9_method_11_code 17 = .ok (.ireturn, 1) := by decide +kernel
def f_Ta_isDigit  (p0 : Int32) : Option (Bool) :=
  if p0 < (48 : Int32) then
    (some (false))
  else
    (if (57 : Int32) < p0 then
      (some (false))
    else
      (some (true)))
set_option maxRecDepth 20000 in
theorem c_Ta_isDigit {l : Launch} {D : va_G} {dA : Nat → ClassId}   {p0 : Int32} {r0 : Bool}   (hf : f_Ta_isDigit  p0 = some r0) : CT l y_Ta_isDigit prog_9_method_11_code 1 (some .boolean) { frames := 0, cells := 0, slots := 0, locals := 0 } D dA [.int p0] [] (some (.int (b2i r0))) (fun _ : Unit => []) := by
  refine ct_intro "OneLamp$Tape" rfl (by decide +kernel) (Nat.le_of_ble_eq_true rfl) [(0, .int p0)] rfl (fun _ C => ?_)
  unfold f_Ta_isDigit at hf
  refine g_iload_n (pc' := 1) C 0 d_Ta_isDigit_0 rfl rfl ?_
  refine g_bipush (pc' := 3) (v := 48) C d_Ta_isDigit_1 rfl rfl ?_
  refine g_icmp_lt (pc' := 6) (tgt := 16) C d_Ta_isDigit_3 rfl rfl (fun h => ?_) (fun h => ?_)
  · replace hf := g_ip h hf
    refine g_iconst (pc' := 17) (v := 0) C d_Ta_isDigit_16 rfl rfl ?_
    replace hf := Option.some.inj hf; subst hf
    exact g_zret C d_Ta_isDigit_17 () rfl
  · replace hf := g_in h hf
    refine g_iload_n (pc' := 7) C 0 d_Ta_isDigit_6 rfl rfl ?_
    refine g_bipush (pc' := 9) (v := 57) C d_Ta_isDigit_7 rfl rfl ?_
    refine g_icmp_gt (pc' := 12) (tgt := 16) C d_Ta_isDigit_9 rfl rfl (fun h => ?_) (fun h => ?_)
    · replace hf := g_ip h hf
      refine g_iconst (pc' := 17) (v := 0) C d_Ta_isDigit_16 rfl rfl ?_
      replace hf := Option.some.inj hf; subst hf
      exact g_zret C d_Ta_isDigit_17 () rfl
    · replace hf := g_in h hf
      refine g_iconst (pc' := 13) (v := 1) C d_Ta_isDigit_12 rfl rfl ?_
      refine g_goto (tgt := 17) C d_Ta_isDigit_13 rfl ?_
      replace hf := Option.some.inj hf; subst hf
      exact g_zret C d_Ta_isDigit_17 () rfl
def y_Ta_write : MethodName := ⟨"OneLamp$Tape", "write", "(I)V"⟩
theorem yy_Ta_write : YV y_Ta_write prog_9_method_6_code 2 none 1 := ⟨mw_2_159, mw_1_7, mw_2_158, tm_s (y := y_Ta_write) (n := 5) (by decide +kernel), by decide +kernel, by decide +kernel, by decide +kernel⟩
theorem d_Ta_write_0 : decode prog_9_method_6_code 0 = .ok (.aload_n 0, 1) := by decide +kernel
theorem d_Ta_write_1 : decode prog_9_method_6_code 1 = .ok (.getfield 25, 3) := by decide +kernel
theorem d_Ta_write_4 : decode prog_9_method_6_code 4 = .ok (.ifCond .lt 35, 3) := by decide +kernel
theorem d_Ta_write_7 : decode prog_9_method_6_code 7 = .ok (.aload_n 0, 1) := by decide +kernel
theorem d_Ta_write_8 : decode prog_9_method_6_code 8 = .ok (.getfield 25, 3) := by decide +kernel
theorem d_Ta_write_11 : decode prog_9_method_6_code 11 = .ok (.aload_n 0, 1) := by decide +kernel
theorem d_Ta_write_12 : decode prog_9_method_6_code 12 = .ok (.getfield 15, 3) := by decide +kernel
theorem d_Ta_write_15 : decode prog_9_method_6_code 15 = .ok (.arraylength, 1) := by decide +kernel
theorem d_Ta_write_16 : decode prog_9_method_6_code 16 = .ok (.if_icmp .ge 23, 3) := by decide +kernel
theorem d_Ta_write_19 : decode prog_9_method_6_code 19 = .ok (.aload_n 0, 1) := by decide +kernel
theorem d_Ta_write_20 : decode prog_9_method_6_code 20 = .ok (.getfield 15, 3) := by decide +kernel
theorem d_Ta_write_23 : decode prog_9_method_6_code 23 = .ok (.aload_n 0, 1) := by decide +kernel
theorem d_Ta_write_24 : decode prog_9_method_6_code 24 = .ok (.getfield 25, 3) := by decide +kernel
theorem d_Ta_write_27 : decode prog_9_method_6_code 27 = .ok (.iload_n 1, 1) := by decide +kernel
theorem d_Ta_write_28 : decode prog_9_method_6_code 28 = .ok (.iastore, 1) := by decide +kernel
theorem d_Ta_write_29 : decode prog_9_method_6_code 29 = .ok (.aload_n 0, 1) := by decide +kernel
theorem d_Ta_write_30 : decode prog_9_method_6_code 30 = .ok (.dup, 1) := by decide +kernel
theorem d_Ta_write_31 : decode prog_9_method_6_code 31 = .ok (.getfield 25, 3) := by decide +kernel
theorem d_Ta_write_34 : decode prog_9_method_6_code 34 = .ok (.iconst 1, 1) := by decide +kernel
theorem d_Ta_write_35 : decode prog_9_method_6_code 35 = .ok (.iadd, 1) := by decide +kernel
theorem d_Ta_write_36 : decode prog_9_method_6_code 36 = .ok (.putfield 25, 3) := by decide +kernel
theorem d_Ta_write_39 : decode prog_9_method_6_code 39 = .ok (.return_, 1) := by decide +kernel
def f_Ta_write  (p1 : Int32) (x_o_codeLength : Int32) (x_o_code : Nat → Int32) : Option (Int32 × (Nat → Int32)) :=
  if x_o_codeLength < 0 then
    (some (x_o_codeLength, x_o_code))
  else
    (if (256 : Int32) ≤ x_o_codeLength then
      (some (x_o_codeLength, x_o_code))
    else
      (if x_o_codeLength < 0 ∨ 256 ≤ Int32.toNatClampNeg x_o_codeLength then none else
      some ((x_o_codeLength + (1 : Int32)), (upd x_o_code (Int32.toNatClampNeg x_o_codeLength) p1))))
set_option maxRecDepth 20000 in
theorem c_Ta_write {l : Launch} {D : va_G} {dA : Nat → ClassId} {a_o a_o_letters a_o_code : Nat} {x_o_length : Int32} {x_o_at : Int32} {p1 : Int32} {x_o_codeLength : Int32} {x_o_code : Nat → Int32} {o_x_o_codeLength : Int32} {o_x_o_code : Nat → Int32}   (hf : f_Ta_write  p1 x_o_codeLength x_o_code = some (o_x_o_codeLength, o_x_o_code)) : CT l y_Ta_write prog_9_method_6_code 2 none { frames := 0, cells := 0, slots := 0, locals := 0 } D dA [.ref a_o, .int p1] [O_Ta a_o a_o_letters x_o_length a_o_code x_o_codeLength x_o_at, A_I dA a_o_code 256 x_o_code] none (fun _ : Unit => [O_Ta a_o a_o_letters x_o_length a_o_code o_x_o_codeLength x_o_at, A_I dA a_o_code 256 o_x_o_code]) := by
  refine ct_intro "OneLamp$Tape" rfl (by decide +kernel) (Nat.le_of_ble_eq_true rfl) [(0, .ref a_o), (1, .int p1)] rfl (fun _ C => ?_)
  unfold f_Ta_write at hf
  refine g_aload_n (pc' := 1) C 0 d_Ta_write_0 rfl rfl ?_
  refine g_get (pc' := 4) C kf_Ta 3 mw_1_162 d_Ta_write_1 rfl 0 rfl (by decide) rfl ?_
  refine g_if_lt (pc' := 7) (tgt := 39) C d_Ta_write_4 rfl rfl (fun h => ?_) (fun h => ?_)
  · replace hf := g_ip h hf
    replace hf := g_o2 hf; obtain ⟨h1, hf⟩ := hf; subst h1
    replace hf := Option.some.inj hf; subst hf
    exact g_vret C d_Ta_write_39 () rfl
  · replace hf := g_in h hf
    refine g_aload_n (pc' := 8) C 0 d_Ta_write_7 rfl rfl ?_
    refine g_get (pc' := 11) C kf_Ta 3 mw_1_162 d_Ta_write_8 rfl 0 rfl (by decide) rfl ?_
    refine g_aload_n (pc' := 12) C 0 d_Ta_write_11 rfl rfl ?_
    refine g_get (pc' := 15) C kf_Ta 2 mw_1_160 d_Ta_write_12 rfl 0 rfl (by decide) rfl ?_
    refine g_alen (pc' := 16) (v := 256) C d_Ta_write_15 rfl 1 0 rfl rfl rfl ?_
    refine g_icmp_ge (pc' := 19) (tgt := 39) C d_Ta_write_16 rfl rfl (fun h => ?_) (fun h => ?_)
    · replace hf := g_ip h hf
      replace hf := g_o2 hf; obtain ⟨h1, hf⟩ := hf; subst h1
      replace hf := Option.some.inj hf; subst hf
      exact g_vret C d_Ta_write_39 () rfl
    · replace hf := g_in h hf
      refine g_aload_n (pc' := 20) C 0 d_Ta_write_19 rfl rfl ?_
      refine g_get (pc' := 23) C kf_Ta 2 mw_1_160 d_Ta_write_20 rfl 0 rfl (by decide) rfl ?_
      refine g_aload_n (pc' := 24) C 0 d_Ta_write_23 rfl rfl ?_
      refine g_get (pc' := 27) C kf_Ta 3 mw_1_162 d_Ta_write_24 rfl 0 rfl (by decide) rfl ?_
      refine g_iload_n (pc' := 28) C 1 d_Ta_write_27 rfl rfl ?_
      have hb := g_ck hf
      replace hf := g_in hb hf
      refine g_iast (pc' := 29) (ws' := [O_Ta a_o a_o_letters x_o_length a_o_code x_o_codeLength x_o_at, A_I dA a_o_code 256 (upd x_o_code (Int32.toNatClampNeg x_o_codeLength) p1)]) C d_Ta_write_28 rfl 1 rfl hb rfl ?_
      refine g_aload_n (pc' := 30) C 0 d_Ta_write_29 rfl rfl ?_
      refine g_dup (pc' := 31) C d_Ta_write_30 rfl rfl ?_
      refine g_get (pc' := 34) C kf_Ta 3 mw_1_162 d_Ta_write_31 rfl 0 rfl (by decide) rfl ?_
      refine g_iconst (pc' := 35) (v := 1) C d_Ta_write_34 rfl rfl ?_
      refine g_iadd (pc' := 36) C d_Ta_write_35 rfl ?_
      refine g_put (pc' := 39) (ws' := [O_Ta a_o a_o_letters x_o_length a_o_code (x_o_codeLength + (1 : Int32)) x_o_at, A_I dA a_o_code 256 (upd x_o_code (Int32.toNatClampNeg x_o_codeLength) p1)]) C kf_Ta 3 mw_1_162 d_Ta_write_36 rfl 0 rfl (by decide) rfl rfl rfl (Nat.le_of_ble_eq_true rfl) rfl ?_
      replace hf := g_o2 hf; obtain ⟨h1, hf⟩ := hf; subst h1
      replace hf := Option.some.inj hf; subst hf
      exact g_vret C d_Ta_write_39 () rfl
def y_Ta_readNumber : MethodName := ⟨"OneLamp$Tape", "readNumber", "()V"⟩
theorem yy_Ta_readNumber : YV y_Ta_readNumber prog_9_method_10_code 3 none 0 := ⟨mw_2_155, mw_1_7, mw_2_154, tm_s (y := y_Ta_readNumber) (n := 5) (by decide +kernel), by decide +kernel, by decide +kernel, by decide +kernel⟩
theorem d_Ta_readNumber_0 : decode prog_9_method_10_code 0 = .ok (.iconst 0, 1) := by decide +kernel
theorem d_Ta_readNumber_1 : decode prog_9_method_10_code 1 = .ok (.istore_n 1, 1) := by decide +kernel
theorem d_Ta_readNumber_2 : decode prog_9_method_10_code 2 = .ok (.iconst 0, 1) := by decide +kernel
theorem d_Ta_readNumber_3 : decode prog_9_method_10_code 3 = .ok (.istore_n 2, 1) := by decide +kernel
theorem d_Ta_readNumber_4 : decode prog_9_method_10_code 4 = .ok (.iload_n 2, 1) := by decide +kernel
theorem d_Ta_readNumber_5 : decode prog_9_method_10_code 5 = .ok (.iconst 4, 1) := by decide +kernel
theorem d_Ta_readNumber_6 : decode prog_9_method_10_code 6 = .ok (.if_icmp .ge 42, 3) := by decide +kernel
theorem d_Ta_readNumber_9 : decode prog_9_method_10_code 9 = .ok (.aload_n 0, 1) := by decide +kernel
theorem d_Ta_readNumber_10 : decode prog_9_method_10_code 10 = .ok (.invokevirtual 32, 3) := by decide +kernel
theorem d_Ta_readNumber_13 : decode prog_9_method_10_code 13 = .ok (.invokestatic 54, 3) := by decide +kernel
theorem d_Ta_readNumber_16 : decode prog_9_method_10_code 16 = .ok (.ifCond .eq 32, 3) := by decide +kernel
theorem d_Ta_readNumber_19 : decode prog_9_method_10_code 19 = .ok (.iload_n 1, 1) := by decide +kernel
theorem d_Ta_readNumber_20 : decode prog_9_method_10_code 20 = .ok (.bipush 10, 2) := by decide +kernel
theorem d_Ta_readNumber_22 : decode prog_9_method_10_code 22 = .ok (.imul, 1) := by decide +kernel
theorem d_Ta_readNumber_23 : decode prog_9_method_10_code 23 = .ok (.aload_n 0, 1) := by decide +kernel
theorem d_Ta_readNumber_24 : decode prog_9_method_10_code 24 = .ok (.invokevirtual 32, 3) := by decide +kernel
theorem d_Ta_readNumber_27 : decode prog_9_method_10_code 27 = .ok (.iadd, 1) := by decide +kernel
theorem d_Ta_readNumber_28 : decode prog_9_method_10_code 28 = .ok (.bipush 48, 2) := by decide +kernel
theorem d_Ta_readNumber_30 : decode prog_9_method_10_code 30 = .ok (.isub, 1) := by decide +kernel
theorem d_Ta_readNumber_31 : decode prog_9_method_10_code 31 = .ok (.istore_n 1, 1) := by decide +kernel
theorem d_Ta_readNumber_32 : decode prog_9_method_10_code 32 = .ok (.aload_n 0, 1) := by decide +kernel
theorem d_Ta_readNumber_33 : decode prog_9_method_10_code 33 = .ok (.dup, 1) := by decide +kernel
theorem d_Ta_readNumber_34 : decode prog_9_method_10_code 34 = .ok (.getfield 22, 3) := by decide +kernel
theorem d_Ta_readNumber_37 : decode prog_9_method_10_code 37 = .ok (.iconst 1, 1) := by decide +kernel
theorem d_Ta_readNumber_38 : decode prog_9_method_10_code 38 = .ok (.iadd, 1) := by decide +kernel
theorem d_Ta_readNumber_39 : decode prog_9_method_10_code 39 = .ok (.putfield 22, 3) := by decide +kernel
theorem d_Ta_readNumber_42 : decode prog_9_method_10_code 42 = .ok (.iinc 2 1, 3) := by decide +kernel
theorem d_Ta_readNumber_45 : decode prog_9_method_10_code 45 = .ok (.goto (-41), 3) := by decide +kernel
theorem d_Ta_readNumber_48 : decode prog_9_method_10_code 48 = .ok (.aload_n 0, 1) := by decide +kernel
theorem d_Ta_readNumber_49 : decode prog_9_method_10_code 49 = .ok (.iload_n 1, 1) := by decide +kernel
theorem d_Ta_readNumber_50 : decode prog_9_method_10_code 50 = .ok (.invokevirtual 42, 3) := by decide +kernel
theorem d_Ta_readNumber_53 : decode prog_9_method_10_code 53 = .ok (.return_, 1) := by decide +kernel
def f_Ta_readNumber_L48   (v1 : Int32) (x_o_codeLength : Int32) (x_o_at : Int32) (x_o_code : Nat → Int32) : Option (Int32 × Int32 × (Nat → Int32)) :=
  (f_Ta_write  v1 x_o_codeLength x_o_code).bind fun (u7, u8) =>
  some (u7, x_o_at, u8)
set_option maxRecDepth 20000 in
theorem w_Ta_readNumber_L48 {p : Program} {l : Launch} {e : Env} {s : State} {m : MethodId} {args : Array Value} {below : List Frame} {meth : Method} {c : Code} {D : va_G} {dA : Nat → ClassId} {A : Nat → Prop} (C : GC p s m args meth c prog_9_method_10_code 3 "OneLamp$Tape" none D dA A) {a_o a_o_letters a_o_code : Nat} {x_o_length : Int32} {x_o_letters : Nat → Int32} {o_x_o_codeLength : Int32} {o_x_o_at : Int32} {o_x_o_code : Nat → Int32}    (v1 : Int32) (x_o_codeLength : Int32) (x_o_at : Int32) (x_o_code : Nat → Int32) (hf : f_Ta_readNumber_L48   v1 x_o_codeLength x_o_at x_o_code = some (o_x_o_codeLength, o_x_o_at, o_x_o_code)) : GG p l e { frames := 1, cells := 0, slots := 0, locals := 21 } s m args below meth c 3 D A 0 0 (MQ below (cQ D A none (fun _ : Unit => [O_Ta a_o a_o_letters x_o_length a_o_code o_x_o_codeLength o_x_o_at, A_I dA a_o_letters 120 x_o_letters, A_I dA a_o_code 256 o_x_o_code])) args s 0 0 A) 48 [(0, .ref a_o), (1, .int v1)] [] [O_Ta a_o a_o_letters x_o_length a_o_code x_o_codeLength x_o_at, A_I dA a_o_letters 120 x_o_letters, A_I dA a_o_code 256 x_o_code] := by
  unfold f_Ta_readNumber_L48 at hf
  refine g_aload_n (pc' := 49) C 0 d_Ta_readNumber_48 rfl rfl ?_
  refine g_iload_n (pc' := 50) C 1 d_Ta_readNumber_49 rfl rfl ?_
  replace hf := g_bi hf; obtain ⟨⟨u7, u8⟩, hc9, hf⟩ := hf
  dsimp only at hf
  refine g_callV (pc' := 53) (st1 := []) (ws1 := [O_Ta a_o a_o_letters x_o_length a_o_code u7 x_o_at, A_I dA a_o_letters 120 x_o_letters, A_I dA a_o_code 256 u8]) C (c_Ta_write (l := l) (D := D) (dA := dA) (a_o := a_o) (a_o_letters := a_o_letters) (a_o_code := a_o_code) (x_o_length := x_o_length) (x_o_at := x_o_at)   hc9) yy_Ta_write kf_Ta rfl mw_2_156 d_Ta_readNumber_50 rfl [] rfl rfl (Nat.le_of_ble_eq_true rfl) ⟨Nat.le_of_ble_eq_true rfl, Nat.le_of_ble_eq_true rfl⟩ rfl rfl (Nat.zero_le _) (Nat.zero_le _) 0 rfl [0, 2] rfl (by decide +kernel) rfl (g_lay_sel _ _ _ _ [(0, true), (1, false), (1, true)] (by decide +kernel) rfl (by decide +kernel) rfl rfl) rfl ?_
  replace hf := g_o2 hf; obtain ⟨h1, hf⟩ := hf; subst h1
  replace hf := g_o2 hf; obtain ⟨h1, hf⟩ := hf; subst h1
  replace hf := Option.some.inj hf; subst hf
  exact g_vret C d_Ta_readNumber_53 () rfl
def f_Ta_readNumber_L4   : Nat → Int32 → Int32 → Int32 → Int32 → Int32 → (Nat → Int32) → (Nat → Int32) → Option (Int32 × Int32 × (Nat → Int32))
  | 0, _, _, _, _, _, _, _ => none
  | n + 1, v1, v2, x_o_length, x_o_codeLength, x_o_at, x_o_letters, x_o_code =>
    if (4 : Int32) ≤ v2 then
      (f_Ta_readNumber_L48  v1 x_o_codeLength x_o_at x_o_code)
    else
      ((f_Ta_letter  x_o_length x_o_at x_o_letters).bind fun r1 =>
      (f_Ta_isDigit  r1).bind fun r3 =>
      if r3 = true then
        ((f_Ta_letter  x_o_length x_o_at x_o_letters).bind fun r5 =>
        f_Ta_readNumber_L4  n (((v1 * (10 : Int32)) + r5) - (48 : Int32)) (v2 + 1) x_o_length x_o_codeLength (x_o_at + (1 : Int32)) x_o_letters x_o_code)
      else
        (f_Ta_readNumber_L48  v1 x_o_codeLength x_o_at x_o_code))
set_option maxRecDepth 20000 in
theorem w_Ta_readNumber_L4 {p : Program} {l : Launch} {e : Env} {s : State} {m : MethodId} {args : Array Value} {below : List Frame} {meth : Method} {c : Code} {D : va_G} {dA : Nat → ClassId} {A : Nat → Prop} (C : GC p s m args meth c prog_9_method_10_code 3 "OneLamp$Tape" none D dA A) {a_o a_o_letters a_o_code : Nat}  {o_x_o_codeLength : Int32} {o_x_o_at : Int32} {o_x_o_code : Nat → Int32}    : ∀ (n : Nat) (v1 : Int32) (v2 : Int32) (x_o_length : Int32) (x_o_codeLength : Int32) (x_o_at : Int32) (x_o_letters : Nat → Int32) (x_o_code : Nat → Int32), f_Ta_readNumber_L4   n v1 v2 x_o_length x_o_codeLength x_o_at x_o_letters x_o_code = some (o_x_o_codeLength, o_x_o_at, o_x_o_code) → GG p l e { frames := 1, cells := 0, slots := 0, locals := 21 } s m args below meth c 3 D A 0 0 (MQ below (cQ D A none (fun _ : Unit => [O_Ta a_o a_o_letters x_o_length a_o_code o_x_o_codeLength o_x_o_at, A_I dA a_o_letters 120 x_o_letters, A_I dA a_o_code 256 o_x_o_code])) args s 0 0 A) 4 [(0, .ref a_o), (1, .int v1), (2, .int v2)] [] [O_Ta a_o a_o_letters x_o_length a_o_code x_o_codeLength x_o_at, A_I dA a_o_letters 120 x_o_letters, A_I dA a_o_code 256 x_o_code] := by
  intro n
  induction n with
  | zero =>
    intro v1 v2 x_o_length x_o_codeLength x_o_at x_o_letters x_o_code hf
    cases hf
  | succ n ih =>
    intro v1 v2 x_o_length x_o_codeLength x_o_at x_o_letters x_o_code hf
    unfold f_Ta_readNumber_L4 at hf
    refine g_iload_n (pc' := 5) C 2 d_Ta_readNumber_4 rfl rfl ?_
    refine g_iconst (pc' := 6) (v := 4) C d_Ta_readNumber_5 rfl rfl ?_
    refine g_icmp_ge (pc' := 9) (tgt := 48) C d_Ta_readNumber_6 rfl rfl (fun h => ?_) (fun h => ?_)
    · replace hf := g_ip h hf
      refine g_lv (lv' := [(0, .ref a_o), (1, .int v1)]) [0, 1] rfl ?_
      exact w_Ta_readNumber_L48 (a_o := a_o) (a_o_letters := a_o_letters) (a_o_code := a_o_code) C   v1 x_o_codeLength x_o_at x_o_code hf
    · replace hf := g_in h hf
      refine g_aload_n (pc' := 10) C 0 d_Ta_readNumber_9 rfl rfl ?_
      replace hf := g_bi hf; obtain ⟨r1, hc2, hf⟩ := hf
      refine g_callV (pc' := 13) (st1 := [.int r1]) (ws1 := [O_Ta a_o a_o_letters x_o_length a_o_code x_o_codeLength x_o_at, A_I dA a_o_letters 120 x_o_letters, A_I dA a_o_code 256 x_o_code]) C (c_Ta_letter (l := l) (D := D) (dA := dA) (a_o := a_o) (a_o_letters := a_o_letters) (a_o_code := a_o_code) (x_o_codeLength := x_o_codeLength)   hc2) yy_Ta_letter kf_Ta rfl mw_2_145 d_Ta_readNumber_10 rfl [] rfl rfl (Nat.le_of_ble_eq_true rfl) ⟨Nat.le_of_ble_eq_true rfl, Nat.le_of_ble_eq_true rfl⟩ rfl rfl (Nat.zero_le _) (Nat.zero_le _) 0 rfl [0, 1] rfl (by decide +kernel) rfl (g_lay_sel _ _ _ _ [(0, true), (1, true), (2, false)] (by decide +kernel) rfl (by decide +kernel) rfl rfl) rfl ?_
      replace hf := g_bi hf; obtain ⟨r3, hc4, hf⟩ := hf
      refine g_callS (pc' := 16) (st1 := [.int (b2i r3)]) (ws1 := [O_Ta a_o a_o_letters x_o_length a_o_code x_o_codeLength x_o_at, A_I dA a_o_letters 120 x_o_letters, A_I dA a_o_code 256 x_o_code]) C (c_Ta_isDigit (l := l) (D := D) (dA := dA)    hc4) yy_Ta_isDigit mw_2_149 d_Ta_readNumber_13 rfl [] rfl rfl (Nat.le_of_ble_eq_true rfl) ⟨Nat.le_of_ble_eq_true rfl, Nat.le_of_ble_eq_true rfl⟩ rfl rfl (Nat.zero_le _) (Nat.zero_le _) [] rfl (by decide +kernel) rfl (g_lay_sel _ _ _ _ [(0, false), (1, false), (2, false)] (by decide +kernel) rfl (by decide +kernel) rfl rfl) rfl ?_
      refine g_if_eqb (pc' := 19) (tgt := 48) C d_Ta_readNumber_16 rfl rfl (fun h => ?_) (fun h => ?_)
      · replace hf := g_bf h hf
        refine g_lv (lv' := [(0, .ref a_o), (1, .int v1)]) [0, 1] rfl ?_
        exact w_Ta_readNumber_L48 (a_o := a_o) (a_o_letters := a_o_letters) (a_o_code := a_o_code) C   v1 x_o_codeLength x_o_at x_o_code hf
      · replace hf := g_bt h hf
        refine g_iload_n (pc' := 20) C 1 d_Ta_readNumber_19 rfl rfl ?_
        refine g_bipush (pc' := 22) (v := 10) C d_Ta_readNumber_20 rfl rfl ?_
        refine g_imul (pc' := 23) C d_Ta_readNumber_22 rfl ?_
        refine g_aload_n (pc' := 24) C 0 d_Ta_readNumber_23 rfl rfl ?_
        replace hf := g_bi hf; obtain ⟨r5, hc6, hf⟩ := hf
        refine g_callV (pc' := 27) (st1 := [.int r5, .int (v1 * (10 : Int32))]) (ws1 := [O_Ta a_o a_o_letters x_o_length a_o_code x_o_codeLength x_o_at, A_I dA a_o_letters 120 x_o_letters, A_I dA a_o_code 256 x_o_code]) C (c_Ta_letter (l := l) (D := D) (dA := dA) (a_o := a_o) (a_o_letters := a_o_letters) (a_o_code := a_o_code) (x_o_codeLength := x_o_codeLength)   hc6) yy_Ta_letter kf_Ta rfl mw_2_145 d_Ta_readNumber_24 rfl [.int (v1 * (10 : Int32))] rfl rfl (Nat.le_of_ble_eq_true rfl) ⟨Nat.le_of_ble_eq_true rfl, Nat.le_of_ble_eq_true rfl⟩ rfl rfl (Nat.zero_le _) (Nat.zero_le _) 0 rfl [0, 1] rfl (by decide +kernel) rfl (g_lay_sel _ _ _ _ [(0, true), (1, true), (2, false)] (by decide +kernel) rfl (by decide +kernel) rfl rfl) rfl ?_
        refine g_iadd (pc' := 28) C d_Ta_readNumber_27 rfl ?_
        refine g_bipush (pc' := 30) (v := 48) C d_Ta_readNumber_28 rfl rfl ?_
        refine g_isub (pc' := 31) C d_Ta_readNumber_30 rfl ?_
        refine g_istore_n (pc' := 32) (lv' := [(1, .int (((v1 * (10 : Int32)) + r5) - (48 : Int32))), (0, .ref a_o), (2, .int v2)]) C d_Ta_readNumber_31 rfl (by decide) rfl ?_
        refine g_aload_n (pc' := 33) C 1 d_Ta_readNumber_32 rfl rfl ?_
        refine g_dup (pc' := 34) C d_Ta_readNumber_33 rfl rfl ?_
        refine g_get (pc' := 37) C kf_Ta 4 mw_1_164 d_Ta_readNumber_34 rfl 0 rfl (by decide) rfl ?_
        refine g_iconst (pc' := 38) (v := 1) C d_Ta_readNumber_37 rfl rfl ?_
        refine g_iadd (pc' := 39) C d_Ta_readNumber_38 rfl ?_
        refine g_put (pc' := 42) (ws' := [O_Ta a_o a_o_letters x_o_length a_o_code x_o_codeLength (x_o_at + (1 : Int32)), A_I dA a_o_letters 120 x_o_letters, A_I dA a_o_code 256 x_o_code]) C kf_Ta 4 mw_1_164 d_Ta_readNumber_39 rfl 0 rfl (by decide) rfl rfl rfl (Nat.le_of_ble_eq_true rfl) rfl ?_
        refine g_iinc (pc' := 45) (j := 2) (v := (v2 + 1)) (lv' := [(2, .int (v2 + 1)), (1, .int (((v1 * (10 : Int32)) + r5) - (48 : Int32))), (0, .ref a_o)]) C d_Ta_readNumber_42 rfl rfl rfl (by decide) rfl ?_
        refine g_goto (tgt := 4) C d_Ta_readNumber_45 rfl ?_
        refine g_lv (lv' := [(0, .ref a_o), (1, .int (((v1 * (10 : Int32)) + r5) - (48 : Int32))), (2, .int (v2 + 1))]) [2, 1, 0] rfl ?_
        exact ih (((v1 * (10 : Int32)) + r5) - (48 : Int32)) (v2 + 1) x_o_length x_o_codeLength (x_o_at + (1 : Int32)) x_o_letters x_o_code hf
def f_Ta_readNumber  (x_o_length : Int32) (x_o_codeLength : Int32) (x_o_at : Int32) (x_o_letters : Nat → Int32) (x_o_code : Nat → Int32) : Option (Int32 × Int32 × (Nat → Int32)) :=
  f_Ta_readNumber_L4  3000 (0 : Int32) (0 : Int32) x_o_length x_o_codeLength x_o_at x_o_letters x_o_code
set_option maxRecDepth 20000 in
theorem c_Ta_readNumber {l : Launch} {D : va_G} {dA : Nat → ClassId} {a_o a_o_letters a_o_code : Nat}  {x_o_length : Int32} {x_o_codeLength : Int32} {x_o_at : Int32} {x_o_letters : Nat → Int32} {x_o_code : Nat → Int32} {o_x_o_codeLength : Int32} {o_x_o_at : Int32} {o_x_o_code : Nat → Int32}   (hf : f_Ta_readNumber  x_o_length x_o_codeLength x_o_at x_o_letters x_o_code = some (o_x_o_codeLength, o_x_o_at, o_x_o_code)) : CT l y_Ta_readNumber prog_9_method_10_code 3 none { frames := 1, cells := 0, slots := 0, locals := 21 } D dA [.ref a_o] [O_Ta a_o a_o_letters x_o_length a_o_code x_o_codeLength x_o_at, A_I dA a_o_letters 120 x_o_letters, A_I dA a_o_code 256 x_o_code] none (fun _ : Unit => [O_Ta a_o a_o_letters x_o_length a_o_code o_x_o_codeLength o_x_o_at, A_I dA a_o_letters 120 x_o_letters, A_I dA a_o_code 256 o_x_o_code]) := by
  refine ct_intro "OneLamp$Tape" rfl (by decide +kernel) (Nat.le_of_ble_eq_true rfl) [(0, .ref a_o)] rfl (fun _ C => ?_)
  unfold f_Ta_readNumber at hf
  refine g_iconst (pc' := 1) (v := 0) C d_Ta_readNumber_0 rfl rfl ?_
  refine g_istore_n (pc' := 2) (lv' := [(1, .int 0), (0, .ref a_o)]) C d_Ta_readNumber_1 rfl (by decide) rfl ?_
  refine g_iconst (pc' := 3) (v := 0) C d_Ta_readNumber_2 rfl rfl ?_
  refine g_istore_n (pc' := 4) (lv' := [(2, .int 0), (1, .int 0), (0, .ref a_o)]) C d_Ta_readNumber_3 rfl (by decide) rfl ?_
  refine g_lv (lv' := [(0, .ref a_o), (1, .int (0 : Int32)), (2, .int (0 : Int32))]) [2, 1, 0] rfl ?_
  exact w_Ta_readNumber_L4 (a_o := a_o) (a_o_letters := a_o_letters) (a_o_code := a_o_code) C   3000 (0 : Int32) (0 : Int32) x_o_length x_o_codeLength x_o_at x_o_letters x_o_code hf
def y_Ta_levelOf : MethodName := ⟨"OneLamp$Tape", "levelOf", "(I)I"⟩
theorem yy_Ta_levelOf : YS y_Ta_levelOf prog_9_method_7_code 1 (some .int) 1 := ⟨mw_2_162, mw_1_7, mw_2_161, by decide +kernel, by decide +kernel, by decide +kernel⟩
theorem d_Ta_levelOf_0 : decode prog_9_method_7_code 0 = .ok (.iload_n 0, 1) := by decide +kernel
theorem d_Ta_levelOf_1 : decode prog_9_method_7_code 1 = .ok (.lookupswitch 101 #[(37, 99), (38, 93), (42, 99), (43, 97), (45, 97), (47, 99), (60, 95), (61, 95), (62, 95), (124, 91)], 91) := by decide +kernel
theorem d_Ta_levelOf_92 : decode prog_9_method_7_code 92 = .ok (.iconst 0, 1) := by decide +kernel
theorem d_Ta_levelOf_93 : decode prog_9_method_7_code 93 = .ok (.ireturn, 1) := by decide +kernel
theorem d_Ta_levelOf_94 : decode prog_9_method_7_code 94 = .ok (.iconst 1, 1) := by decide +kernel
theorem d_Ta_levelOf_95 : decode prog_9_method_7_code 95 = .ok (.ireturn, 1) := by decide +kernel
theorem d_Ta_levelOf_96 : decode prog_9_method_7_code 96 = .ok (.iconst 2, 1) := by decide +kernel
theorem d_Ta_levelOf_97 : decode prog_9_method_7_code 97 = .ok (.ireturn, 1) := by decide +kernel
theorem d_Ta_levelOf_98 : decode prog_9_method_7_code 98 = .ok (.iconst 3, 1) := by decide +kernel
theorem d_Ta_levelOf_99 : decode prog_9_method_7_code 99 = .ok (.ireturn, 1) := by decide +kernel
theorem d_Ta_levelOf_100 : decode prog_9_method_7_code 100 = .ok (.iconst 4, 1) := by decide +kernel
theorem d_Ta_levelOf_101 : decode prog_9_method_7_code 101 = .ok (.ireturn, 1) := by decide +kernel
theorem d_Ta_levelOf_102 : decode prog_9_method_7_code 102 = .ok (.iconst (-1), 1) := by decide +kernel
theorem d_Ta_levelOf_103 : decode prog_9_method_7_code 103 = .ok (.ireturn, 1) := by decide +kernel
def f_Ta_levelOf  (p0 : Int32) : Option (Int32) :=
  if p0 = 37 then
    (some ((4 : Int32)))
  else
  (if p0 = 38 then
    (some ((1 : Int32)))
  else
  (if p0 = 42 then
    (some ((4 : Int32)))
  else
  (if p0 = 43 then
    (some ((3 : Int32)))
  else
  (if p0 = 45 then
    (some ((3 : Int32)))
  else
  (if p0 = 47 then
    (some ((4 : Int32)))
  else
  (if p0 = 60 then
    (some ((2 : Int32)))
  else
  (if p0 = 61 then
    (some ((2 : Int32)))
  else
  (if p0 = 62 then
    (some ((2 : Int32)))
  else
  (if p0 = 124 then
    (some ((0 : Int32)))
  else
  (some ((-1 : Int32))))))))))))
set_option maxRecDepth 20000 in
theorem c_Ta_levelOf {l : Launch} {D : va_G} {dA : Nat → ClassId}   {p0 : Int32} {r0 : Int32}   (hf : f_Ta_levelOf  p0 = some r0) : CT l y_Ta_levelOf prog_9_method_7_code 1 (some .int) { frames := 0, cells := 0, slots := 0, locals := 0 } D dA [.int p0] [] (some (.int r0)) (fun _ : Unit => []) := by
  refine ct_intro "OneLamp$Tape" rfl (by decide +kernel) (Nat.le_of_ble_eq_true rfl) [(0, .int p0)] rfl (fun _ C => ?_)
  unfold f_Ta_levelOf at hf
  refine g_iload_n (pc' := 1) C 0 d_Ta_levelOf_0 rfl rfl ?_
  by_cases q0 : p0 = 37
  · replace hf := g_ip q0 hf
    have e : (p0 : Int32).toInt = 37 := by rw [q0]; rfl
    refine g_lookup (off := 99) (tgt := 100) C d_Ta_levelOf_1 (by decide) (by rw [e]; rfl) rfl ?_
    refine g_iconst (pc' := 101) (v := 4) C d_Ta_levelOf_100 rfl rfl ?_
    replace hf := Option.some.inj hf; subst hf
    exact g_iret C d_Ta_levelOf_101 () rfl
  replace hf := g_in q0 hf
  by_cases q1 : p0 = 38
  · replace hf := g_ip q1 hf
    have e : (p0 : Int32).toInt = 38 := by rw [q1]; rfl
    refine g_lookup (off := 93) (tgt := 94) C d_Ta_levelOf_1 (by decide) (by rw [e]; rfl) rfl ?_
    refine g_iconst (pc' := 95) (v := 1) C d_Ta_levelOf_94 rfl rfl ?_
    replace hf := Option.some.inj hf; subst hf
    exact g_iret C d_Ta_levelOf_95 () rfl
  replace hf := g_in q1 hf
  by_cases q2 : p0 = 42
  · replace hf := g_ip q2 hf
    have e : (p0 : Int32).toInt = 42 := by rw [q2]; rfl
    refine g_lookup (off := 99) (tgt := 100) C d_Ta_levelOf_1 (by decide) (by rw [e]; rfl) rfl ?_
    refine g_iconst (pc' := 101) (v := 4) C d_Ta_levelOf_100 rfl rfl ?_
    replace hf := Option.some.inj hf; subst hf
    exact g_iret C d_Ta_levelOf_101 () rfl
  replace hf := g_in q2 hf
  by_cases q3 : p0 = 43
  · replace hf := g_ip q3 hf
    have e : (p0 : Int32).toInt = 43 := by rw [q3]; rfl
    refine g_lookup (off := 97) (tgt := 98) C d_Ta_levelOf_1 (by decide) (by rw [e]; rfl) rfl ?_
    refine g_iconst (pc' := 99) (v := 3) C d_Ta_levelOf_98 rfl rfl ?_
    replace hf := Option.some.inj hf; subst hf
    exact g_iret C d_Ta_levelOf_99 () rfl
  replace hf := g_in q3 hf
  by_cases q4 : p0 = 45
  · replace hf := g_ip q4 hf
    have e : (p0 : Int32).toInt = 45 := by rw [q4]; rfl
    refine g_lookup (off := 97) (tgt := 98) C d_Ta_levelOf_1 (by decide) (by rw [e]; rfl) rfl ?_
    refine g_iconst (pc' := 99) (v := 3) C d_Ta_levelOf_98 rfl rfl ?_
    replace hf := Option.some.inj hf; subst hf
    exact g_iret C d_Ta_levelOf_99 () rfl
  replace hf := g_in q4 hf
  by_cases q5 : p0 = 47
  · replace hf := g_ip q5 hf
    have e : (p0 : Int32).toInt = 47 := by rw [q5]; rfl
    refine g_lookup (off := 99) (tgt := 100) C d_Ta_levelOf_1 (by decide) (by rw [e]; rfl) rfl ?_
    refine g_iconst (pc' := 101) (v := 4) C d_Ta_levelOf_100 rfl rfl ?_
    replace hf := Option.some.inj hf; subst hf
    exact g_iret C d_Ta_levelOf_101 () rfl
  replace hf := g_in q5 hf
  by_cases q6 : p0 = 60
  · replace hf := g_ip q6 hf
    have e : (p0 : Int32).toInt = 60 := by rw [q6]; rfl
    refine g_lookup (off := 95) (tgt := 96) C d_Ta_levelOf_1 (by decide) (by rw [e]; rfl) rfl ?_
    refine g_iconst (pc' := 97) (v := 2) C d_Ta_levelOf_96 rfl rfl ?_
    replace hf := Option.some.inj hf; subst hf
    exact g_iret C d_Ta_levelOf_97 () rfl
  replace hf := g_in q6 hf
  by_cases q7 : p0 = 61
  · replace hf := g_ip q7 hf
    have e : (p0 : Int32).toInt = 61 := by rw [q7]; rfl
    refine g_lookup (off := 95) (tgt := 96) C d_Ta_levelOf_1 (by decide) (by rw [e]; rfl) rfl ?_
    refine g_iconst (pc' := 97) (v := 2) C d_Ta_levelOf_96 rfl rfl ?_
    replace hf := Option.some.inj hf; subst hf
    exact g_iret C d_Ta_levelOf_97 () rfl
  replace hf := g_in q7 hf
  by_cases q8 : p0 = 62
  · replace hf := g_ip q8 hf
    have e : (p0 : Int32).toInt = 62 := by rw [q8]; rfl
    refine g_lookup (off := 95) (tgt := 96) C d_Ta_levelOf_1 (by decide) (by rw [e]; rfl) rfl ?_
    refine g_iconst (pc' := 97) (v := 2) C d_Ta_levelOf_96 rfl rfl ?_
    replace hf := Option.some.inj hf; subst hf
    exact g_iret C d_Ta_levelOf_97 () rfl
  replace hf := g_in q8 hf
  by_cases q9 : p0 = 124
  · replace hf := g_ip q9 hf
    have e : (p0 : Int32).toInt = 124 := by rw [q9]; rfl
    refine g_lookup (off := 91) (tgt := 92) C d_Ta_levelOf_1 (by decide) (by rw [e]; rfl) rfl ?_
    refine g_iconst (pc' := 93) (v := 0) C d_Ta_levelOf_92 rfl rfl ?_
    replace hf := Option.some.inj hf; subst hf
    exact g_iret C d_Ta_levelOf_93 () rfl
  replace hf := g_in q9 hf
  refine g_lookup (off := 101) (tgt := 102) C d_Ta_levelOf_1 (by decide) (by show Op.lookupswitch.offset [(37, 99), (38, 93), (42, 99), (43, 97), (45, 97), (47, 99), (60, 95), (61, 95), (62, 95), (124, 91)] 101 (p0 : Int32).toInt = 101; rw [lv_osw (a := 37) q0 rfl, lv_osw (a := 38) q1 rfl, lv_osw (a := 42) q2 rfl, lv_osw (a := 43) q3 rfl, lv_osw (a := 45) q4 rfl, lv_osw (a := 47) q5 rfl, lv_osw (a := 60) q6 rfl, lv_osw (a := 61) q7 rfl, lv_osw (a := 62) q8 rfl, lv_osw (a := 124) q9 rfl]; rfl) rfl ?_
  refine g_iconst (pc' := 103) (v := (-1)) C d_Ta_levelOf_102 rfl rfl ?_
  replace hf := Option.some.inj hf; subst hf
  exact g_iret C d_Ta_levelOf_103 () rfl
def y_Ta_readOperand : MethodName := ⟨"OneLamp$Tape", "readOperand", "(LOneLamp$Tape;I)Z"⟩
theorem yy_Ta_readOperand : YS y_Ta_readOperand prog_9_method_9_code 3 (some .boolean) 2 := ⟨mw_2_144, mw_1_7, mw_2_143, by decide +kernel, by decide +kernel, by decide +kernel⟩
theorem d_Ta_readOperand_0 : decode prog_9_method_9_code 0 = .ok (.aload_n 0, 1) := by decide +kernel
theorem d_Ta_readOperand_1 : decode prog_9_method_9_code 1 = .ok (.invokevirtual 32, 3) := by decide +kernel
theorem d_Ta_readOperand_4 : decode prog_9_method_9_code 4 = .ok (.istore_n 2, 1) := by decide +kernel
theorem d_Ta_readOperand_5 : decode prog_9_method_9_code 5 = .ok (.iload_n 2, 1) := by decide +kernel
theorem d_Ta_readOperand_6 : decode prog_9_method_9_code 6 = .ok (.invokestatic 54, 3) := by decide +kernel
theorem d_Ta_readOperand_9 : decode prog_9_method_9_code 9 = .ok (.ifCond .eq 9, 3) := by decide +kernel
theorem d_Ta_readOperand_12 : decode prog_9_method_9_code 12 = .ok (.aload_n 0, 1) := by decide +kernel
theorem d_Ta_readOperand_13 : decode prog_9_method_9_code 13 = .ok (.invokevirtual 58, 3) := by decide +kernel
theorem d_Ta_readOperand_16 : decode prog_9_method_9_code 16 = .ok (.iconst 1, 1) := by decide +kernel
theorem d_Ta_readOperand_17 : decode prog_9_method_9_code 17 = .ok (.ireturn, 1) := by decide +kernel
theorem d_Ta_readOperand_18 : decode prog_9_method_9_code 18 = .ok (.iload_n 2, 1) := by decide +kernel
theorem d_Ta_readOperand_19 : decode prog_9_method_9_code 19 = .ok (.bipush 112, 2) := by decide +kernel
theorem d_Ta_readOperand_21 : decode prog_9_method_9_code 21 = .ok (.if_icmp .eq 21, 3) := by decide +kernel
theorem d_Ta_readOperand_24 : decode prog_9_method_9_code 24 = .ok (.iload_n 2, 1) := by decide +kernel
theorem d_Ta_readOperand_25 : decode prog_9_method_9_code 25 = .ok (.bipush 108, 2) := by decide +kernel
theorem d_Ta_readOperand_27 : decode prog_9_method_9_code 27 = .ok (.if_icmp .eq 15, 3) := by decide +kernel
theorem d_Ta_readOperand_30 : decode prog_9_method_9_code 30 = .ok (.iload_n 2, 1) := by decide +kernel
theorem d_Ta_readOperand_31 : decode prog_9_method_9_code 31 = .ok (.bipush 110, 2) := by decide +kernel
theorem d_Ta_readOperand_33 : decode prog_9_method_9_code 33 = .ok (.if_icmp .eq 9, 3) := by decide +kernel
theorem d_Ta_readOperand_36 : decode prog_9_method_9_code 36 = .ok (.iload_n 2, 1) := by decide +kernel
theorem d_Ta_readOperand_37 : decode prog_9_method_9_code 37 = .ok (.bipush 104, 2) := by decide +kernel
theorem d_Ta_readOperand_39 : decode prog_9_method_9_code 39 = .ok (.if_icmp .ne 21, 3) := by decide +kernel
theorem d_Ta_readOperand_42 : decode prog_9_method_9_code 42 = .ok (.aload_n 0, 1) := by decide +kernel
theorem d_Ta_readOperand_43 : decode prog_9_method_9_code 43 = .ok (.iload_n 2, 1) := by decide +kernel
theorem d_Ta_readOperand_44 : decode prog_9_method_9_code 44 = .ok (.ineg, 1) := by decide +kernel
theorem d_Ta_readOperand_45 : decode prog_9_method_9_code 45 = .ok (.invokevirtual 42, 3) := by decide +kernel
theorem d_Ta_readOperand_48 : decode prog_9_method_9_code 48 = .ok (.aload_n 0, 1) := by decide +kernel
theorem d_Ta_readOperand_49 : decode prog_9_method_9_code 49 = .ok (.dup, 1) := by decide +kernel
theorem d_Ta_readOperand_50 : decode prog_9_method_9_code 50 = .ok (.getfield 22, 3) := by decide +kernel
theorem d_Ta_readOperand_53 : decode prog_9_method_9_code 53 = .ok (.iconst 1, 1) := by decide +kernel
theorem d_Ta_readOperand_54 : decode prog_9_method_9_code 54 = .ok (.iadd, 1) := by decide +kernel
theorem d_Ta_readOperand_55 : decode prog_9_method_9_code 55 = .ok (.putfield 22, 3) := by decide +kernel
theorem d_Ta_readOperand_58 : decode prog_9_method_9_code 58 = .ok (.iconst 1, 1) := by decide +kernel
theorem d_Ta_readOperand_59 : decode prog_9_method_9_code 59 = .ok (.ireturn, 1) := by decide +kernel
theorem d_Ta_readOperand_60 : decode prog_9_method_9_code 60 = .ok (.iload_n 1, 1) := by decide +kernel
theorem d_Ta_readOperand_61 : decode prog_9_method_9_code 61 = .ok (.bipush 6, 2) := by decide +kernel
theorem d_Ta_readOperand_63 : decode prog_9_method_9_code 63 = .ok (.if_icmp .ge 21, 3) := by decide +kernel
theorem d_Ta_readOperand_66 : decode prog_9_method_9_code 66 = .ok (.iload_n 2, 1) := by decide +kernel
theorem d_Ta_readOperand_67 : decode prog_9_method_9_code 67 = .ok (.bipush 40, 2) := by decide +kernel
theorem d_Ta_readOperand_69 : decode prog_9_method_9_code 69 = .ok (.if_icmp .eq 17, 3) := by decide +kernel
theorem d_Ta_readOperand_72 : decode prog_9_method_9_code 72 = .ok (.iload_n 2, 1) := by decide +kernel
theorem d_Ta_readOperand_73 : decode prog_9_method_9_code 73 = .ok (.bipush 33, 2) := by decide +kernel
theorem d_Ta_readOperand_75 : decode prog_9_method_9_code 75 = .ok (.if_icmp .eq 11, 3) := by decide +kernel
theorem d_Ta_readOperand_78 : decode prog_9_method_9_code 78 = .ok (.iload_n 2, 1) := by decide +kernel
theorem d_Ta_readOperand_79 : decode prog_9_method_9_code 79 = .ok (.bipush 45, 2) := by decide +kernel
theorem d_Ta_readOperand_81 : decode prog_9_method_9_code 81 = .ok (.if_icmp .eq 5, 3) := by decide +kernel
theorem d_Ta_readOperand_84 : decode prog_9_method_9_code 84 = .ok (.iconst 0, 1) := by decide +kernel
theorem d_Ta_readOperand_85 : decode prog_9_method_9_code 85 = .ok (.ireturn, 1) := by decide +kernel
theorem d_Ta_readOperand_86 : decode prog_9_method_9_code 86 = .ok (.aload_n 0, 1) := by decide +kernel
theorem d_Ta_readOperand_87 : decode prog_9_method_9_code 87 = .ok (.dup, 1) := by decide +kernel
theorem d_Ta_readOperand_88 : decode prog_9_method_9_code 88 = .ok (.getfield 22, 3) := by decide +kernel
theorem d_Ta_readOperand_91 : decode prog_9_method_9_code 91 = .ok (.iconst 1, 1) := by decide +kernel
theorem d_Ta_readOperand_92 : decode prog_9_method_9_code 92 = .ok (.iadd, 1) := by decide +kernel
theorem d_Ta_readOperand_93 : decode prog_9_method_9_code 93 = .ok (.putfield 22, 3) := by decide +kernel
theorem d_Ta_readOperand_96 : decode prog_9_method_9_code 96 = .ok (.iload_n 2, 1) := by decide +kernel
theorem d_Ta_readOperand_97 : decode prog_9_method_9_code 97 = .ok (.bipush 40, 2) := by decide +kernel
theorem d_Ta_readOperand_99 : decode prog_9_method_9_code 99 = .ok (.if_icmp .ne 37, 3) := by decide +kernel
theorem d_Ta_readOperand_102 : decode prog_9_method_9_code 102 = .ok (.aload_n 0, 1) := by decide +kernel
theorem d_Ta_readOperand_103 : decode prog_9_method_9_code 103 = .ok (.iconst 0, 1) := by decide +kernel
theorem d_Ta_readOperand_104 : decode prog_9_method_9_code 104 = .ok (.iload_n 1, 1) := by decide +kernel
theorem d_Ta_readOperand_105 : decode prog_9_method_9_code 105 = .ok (.iconst 1, 1) := by decide +kernel
theorem d_Ta_readOperand_106 : decode prog_9_method_9_code 106 = .ok (.iadd, 1) := by decide +kernel
theorem d_Ta_readOperand_107 : decode prog_9_method_9_code 107 = .ok (.invokestatic 36, 3) := by decide +kernel
theorem d_Ta_readOperand_110 : decode prog_9_method_9_code 110 = .ok (.ifCond .eq 12, 3) := by decide +kernel
theorem d_Ta_readOperand_113 : decode prog_9_method_9_code 113 = .ok (.aload_n 0, 1) := by decide +kernel
theorem d_Ta_readOperand_114 : decode prog_9_method_9_code 114 = .ok (.invokevirtual 32, 3) := by decide +kernel
theorem d_Ta_readOperand_117 : decode prog_9_method_9_code 117 = .ok (.bipush 41, 2) := by decide +kernel
theorem d_Ta_readOperand_119 : decode prog_9_method_9_code 119 = .ok (.if_icmp .eq 5, 3) := by decide +kernel
theorem d_Ta_readOperand_122 : decode prog_9_method_9_code 122 = .ok (.iconst 0, 1) := by decide +kernel
theorem d_Ta_readOperand_123 : decode prog_9_method_9_code 123 = .ok (.ireturn, 1) := by decide +kernel
theorem d_Ta_readOperand_124 : decode prog_9_method_9_code 124 = .ok (.aload_n 0, 1) := by decide +kernel
theorem d_Ta_readOperand_125 : decode prog_9_method_9_code 125 = .ok (.dup, 1) := by decide +kernel
theorem d_Ta_readOperand_126 : decode prog_9_method_9_code 126 = .ok (.getfield 22, 3) := by decide +kernel
theorem d_Ta_readOperand_129 : decode prog_9_method_9_code 129 = .ok (.iconst 1, 1) := by decide +kernel
theorem d_Ta_readOperand_130 : decode prog_9_method_9_code 130 = .ok (.iadd, 1) := by decide +kernel
theorem d_Ta_readOperand_131 : decode prog_9_method_9_code 131 = .ok (.putfield 22, 3) := by decide +kernel
theorem d_Ta_readOperand_134 : decode prog_9_method_9_code 134 = .ok (.iconst 1, 1) := by decide +kernel
theorem d_Ta_readOperand_135 : decode prog_9_method_9_code 135 = .ok (.ireturn, 1) := by decide +kernel
theorem d_Ta_readOperand_136 : decode prog_9_method_9_code 136 = .ok (.aload_n 0, 1) := by decide +kernel
theorem d_Ta_readOperand_137 : decode prog_9_method_9_code 137 = .ok (.iload_n 1, 1) := by decide +kernel
theorem d_Ta_readOperand_138 : decode prog_9_method_9_code 138 = .ok (.iconst 1, 1) := by decide +kernel
theorem d_Ta_readOperand_139 : decode prog_9_method_9_code 139 = .ok (.iadd, 1) := by decide +kernel
theorem d_Ta_readOperand_140 : decode prog_9_method_9_code 140 = .ok (.invokestatic 46, 3) := by decide +kernel
theorem d_Ta_readOperand_143 : decode prog_9_method_9_code 143 = .ok (.ifCond .ne 5, 3) := by decide +kernel
theorem d_Ta_readOperand_146 : decode prog_9_method_9_code 146 = .ok (.iconst 0, 1) := by decide +kernel
theorem d_Ta_readOperand_147 : decode prog_9_method_9_code 147 = .ok (.ireturn, 1) := by decide +kernel
theorem d_Ta_readOperand_148 : decode prog_9_method_9_code 148 = .ok (.aload_n 0, 1) := by decide +kernel
theorem d_Ta_readOperand_149 : decode prog_9_method_9_code 149 = .ok (.iload_n 2, 1) := by decide +kernel
theorem d_Ta_readOperand_150 : decode prog_9_method_9_code 150 = .ok (.bipush 33, 2) := by decide +kernel
theorem d_Ta_readOperand_152 : decode prog_9_method_9_code 152 = .ok (.if_icmp .ne 8, 3) := by decide +kernel
theorem d_Ta_readOperand_155 : decode prog_9_method_9_code 155 = .ok (.bipush (-33), 2) := by decide +kernel
theorem d_Ta_readOperand_157 : decode prog_9_method_9_code 157 = .ok (.goto 5, 3) := by decide +kernel
theorem d_Ta_readOperand_160 : decode prog_9_method_9_code 160 = .ok (.bipush (-126), 2) := by decide +kernel
theorem d_Ta_readOperand_162 : decode prog_9_method_9_code 162 = .ok (.invokevirtual 42, 3) := by decide +kernel
theorem d_Ta_readOperand_165 : decode prog_9_method_9_code 165 = .ok (.iconst 1, 1) := by decide +kernel
theorem d_Ta_readOperand_166 : decode prog_9_method_9_code 166 = .ok (.ireturn, 1) := by decide +kernel
def y_Ta_readLevel : MethodName := ⟨"OneLamp$Tape", "readLevel", "(LOneLamp$Tape;II)Z"⟩
theorem yy_Ta_readLevel : YS y_Ta_readLevel prog_9_method_8_code 6 (some .boolean) 3 := ⟨mw_2_141, mw_1_7, mw_2_140, by decide +kernel, by decide +kernel, by decide +kernel⟩
theorem d_Ta_readLevel_0 : decode prog_9_method_8_code 0 = .ok (.iload_n 1, 1) := by decide +kernel
theorem d_Ta_readLevel_1 : decode prog_9_method_8_code 1 = .ok (.iconst 4, 1) := by decide +kernel
theorem d_Ta_readLevel_2 : decode prog_9_method_8_code 2 = .ok (.if_icmp .le 9, 3) := by decide +kernel
theorem d_Ta_readLevel_5 : decode prog_9_method_8_code 5 = .ok (.aload_n 0, 1) := by decide +kernel
theorem d_Ta_readLevel_6 : decode prog_9_method_8_code 6 = .ok (.iload_n 2, 1) := by decide +kernel
theorem d_Ta_readLevel_7 : decode prog_9_method_8_code 7 = .ok (.invokestatic 46, 3) := by decide +kernel
theorem d_Ta_readLevel_10 : decode prog_9_method_8_code 10 = .ok (.ireturn, 1) := by decide +kernel
theorem d_Ta_readLevel_11 : decode prog_9_method_8_code 11 = .ok (.aload_n 0, 1) := by decide +kernel
theorem d_Ta_readLevel_12 : decode prog_9_method_8_code 12 = .ok (.iload_n 1, 1) := by decide +kernel
theorem d_Ta_readLevel_13 : decode prog_9_method_8_code 13 = .ok (.iconst 1, 1) := by decide +kernel
theorem d_Ta_readLevel_14 : decode prog_9_method_8_code 14 = .ok (.iadd, 1) := by decide +kernel
theorem d_Ta_readLevel_15 : decode prog_9_method_8_code 15 = .ok (.iload_n 2, 1) := by decide +kernel
theorem d_Ta_readLevel_16 : decode prog_9_method_8_code 16 = .ok (.invokestatic 36, 3) := by decide +kernel
theorem d_Ta_readLevel_19 : decode prog_9_method_8_code 19 = .ok (.ifCond .ne 5, 3) := by decide +kernel
theorem d_Ta_readLevel_22 : decode prog_9_method_8_code 22 = .ok (.iconst 0, 1) := by decide +kernel
theorem d_Ta_readLevel_23 : decode prog_9_method_8_code 23 = .ok (.ireturn, 1) := by decide +kernel
theorem d_Ta_readLevel_24 : decode prog_9_method_8_code 24 = .ok (.iload_n 1, 1) := by decide +kernel
theorem d_Ta_readLevel_25 : decode prog_9_method_8_code 25 = .ok (.iconst 2, 1) := by decide +kernel
theorem d_Ta_readLevel_26 : decode prog_9_method_8_code 26 = .ok (.if_icmp .ne 7, 3) := by decide +kernel
theorem d_Ta_readLevel_29 : decode prog_9_method_8_code 29 = .ok (.iconst 1, 1) := by decide +kernel
theorem d_Ta_readLevel_30 : decode prog_9_method_8_code 30 = .ok (.goto 5, 3) := by decide +kernel
theorem d_Ta_readLevel_33 : decode prog_9_method_8_code 33 = .ok (.bipush 120, 2) := by decide +kernel
theorem d_Ta_readLevel_35 : decode prog_9_method_8_code 35 = .ok (.istore_n 3, 1) := by decide +kernel
theorem d_Ta_readLevel_36 : decode prog_9_method_8_code 36 = .ok (.iconst 0, 1) := by decide +kernel
theorem d_Ta_readLevel_37 : decode prog_9_method_8_code 37 = .ok (.istore 4, 2) := by decide +kernel
theorem d_Ta_readLevel_39 : decode prog_9_method_8_code 39 = .ok (.iload 4, 2) := by decide +kernel
theorem d_Ta_readLevel_41 : decode prog_9_method_8_code 41 = .ok (.iload_n 3, 1) := by decide +kernel
theorem d_Ta_readLevel_42 : decode prog_9_method_8_code 42 = .ok (.if_icmp .ge 56, 3) := by decide +kernel
theorem d_Ta_readLevel_45 : decode prog_9_method_8_code 45 = .ok (.aload_n 0, 1) := by decide +kernel
theorem d_Ta_readLevel_46 : decode prog_9_method_8_code 46 = .ok (.invokevirtual 32, 3) := by decide +kernel
theorem d_Ta_readLevel_49 : decode prog_9_method_8_code 49 = .ok (.invokestatic 50, 3) := by decide +kernel
theorem d_Ta_readLevel_52 : decode prog_9_method_8_code 52 = .ok (.iload_n 1, 1) := by decide +kernel
theorem d_Ta_readLevel_53 : decode prog_9_method_8_code 53 = .ok (.if_icmp .ne 45, 3) := by decide +kernel
theorem d_Ta_readLevel_56 : decode prog_9_method_8_code 56 = .ok (.aload_n 0, 1) := by decide +kernel
theorem d_Ta_readLevel_57 : decode prog_9_method_8_code 57 = .ok (.invokevirtual 32, 3) := by decide +kernel
theorem d_Ta_readLevel_60 : decode prog_9_method_8_code 60 = .ok (.istore 5, 2) := by decide +kernel
theorem d_Ta_readLevel_62 : decode prog_9_method_8_code 62 = .ok (.aload_n 0, 1) := by decide +kernel
theorem d_Ta_readLevel_63 : decode prog_9_method_8_code 63 = .ok (.dup, 1) := by decide +kernel
theorem d_Ta_readLevel_64 : decode prog_9_method_8_code 64 = .ok (.getfield 22, 3) := by decide +kernel
theorem d_Ta_readLevel_67 : decode prog_9_method_8_code 67 = .ok (.iconst 1, 1) := by decide +kernel
theorem d_Ta_readLevel_68 : decode prog_9_method_8_code 68 = .ok (.iadd, 1) := by decide +kernel
theorem d_Ta_readLevel_69 : decode prog_9_method_8_code 69 = .ok (.putfield 22, 3) := by decide +kernel
theorem d_Ta_readLevel_72 : decode prog_9_method_8_code 72 = .ok (.aload_n 0, 1) := by decide +kernel
theorem d_Ta_readLevel_73 : decode prog_9_method_8_code 73 = .ok (.iload_n 1, 1) := by decide +kernel
theorem d_Ta_readLevel_74 : decode prog_9_method_8_code 74 = .ok (.iconst 1, 1) := by decide +kernel
theorem d_Ta_readLevel_75 : decode prog_9_method_8_code 75 = .ok (.iadd, 1) := by decide +kernel
theorem d_Ta_readLevel_76 : decode prog_9_method_8_code 76 = .ok (.iload_n 2, 1) := by decide +kernel
theorem d_Ta_readLevel_77 : decode prog_9_method_8_code 77 = .ok (.invokestatic 36, 3) := by decide +kernel
theorem d_Ta_readLevel_80 : decode prog_9_method_8_code 80 = .ok (.ifCond .ne 5, 3) := by decide +kernel
theorem d_Ta_readLevel_83 : decode prog_9_method_8_code 83 = .ok (.iconst 0, 1) := by decide +kernel
theorem d_Ta_readLevel_84 : decode prog_9_method_8_code 84 = .ok (.ireturn, 1) := by decide +kernel
theorem d_Ta_readLevel_85 : decode prog_9_method_8_code 85 = .ok (.aload_n 0, 1) := by decide +kernel
theorem d_Ta_readLevel_86 : decode prog_9_method_8_code 86 = .ok (.iload 5, 2) := by decide +kernel
theorem d_Ta_readLevel_88 : decode prog_9_method_8_code 88 = .ok (.ineg, 1) := by decide +kernel
theorem d_Ta_readLevel_89 : decode prog_9_method_8_code 89 = .ok (.invokevirtual 42, 3) := by decide +kernel
theorem d_Ta_readLevel_92 : decode prog_9_method_8_code 92 = .ok (.iinc 4 1, 3) := by decide +kernel
theorem d_Ta_readLevel_95 : decode prog_9_method_8_code 95 = .ok (.goto (-56), 3) := by decide +kernel
theorem d_Ta_readLevel_98 : decode prog_9_method_8_code 98 = .ok (.iconst 1, 1) := by decide +kernel
theorem d_Ta_readLevel_99 : decode prog_9_method_8_code 99 = .ok (.ireturn, 1) := by decide +kernel
def f_Ta_readOperand_L42 (rec_Ta_readLevel : Int32 → Int32 → Int32 → Int32 → Int32 → (Nat → Int32) → (Nat → Int32) → Option (Bool × Int32 × Int32 × (Nat → Int32))) (rec_Ta_readOperand : Int32 → Int32 → Int32 → Int32 → (Nat → Int32) → (Nat → Int32) → Option (Bool × Int32 × Int32 × (Nat → Int32)))  (v2 : Int32) (x_p0_codeLength : Int32) (x_p0_at : Int32) (x_p0_code : Nat → Int32) : Option (Bool × Int32 × Int32 × (Nat → Int32)) :=
  (f_Ta_write  (-v2) x_p0_codeLength x_p0_code).bind fun (u1, u2) =>
  some (true, u1, (x_p0_at + (1 : Int32)), u2)
set_option maxRecDepth 20000 in
theorem w_Ta_readOperand_L42 {p : Program} {l : Launch} {e : Env} {s : State} {m : MethodId} {args : Array Value} {below : List Frame} {meth : Method} {c : Code} {D : va_G} {dA : Nat → ClassId} {A : Nat → Prop} (C : GC p s m args meth c prog_9_method_9_code 3 "OneLamp$Tape" (some .boolean) D dA A) {a_p0 a_p0_letters a_p0_code : Nat} {x_p0_length : Int32} {x_p0_letters : Nat → Int32} {r0 : Bool} {o_x_p0_codeLength : Int32} {o_x_p0_at : Int32} {o_x_p0_code : Nat → Int32}  {fr lo : Nat} (rec_Ta_readLevel : Int32 → Int32 → Int32 → Int32 → Int32 → (Nat → Int32) → (Nat → Int32) → Option (Bool × Int32 × Int32 × (Nat → Int32))) (hrec_Ta_readLevel : ∀ (a_p0 : Nat) (a_p0_letters : Nat) (a_p0_code : Nat) (p1 : Int32) (p2 : Int32) (x_p0_length : Int32) (x_p0_codeLength : Int32) (x_p0_at : Int32) (x_p0_letters : Nat → Int32) (x_p0_code : Nat → Int32) (r0 : Bool) (o_x_p0_codeLength : Int32) (o_x_p0_at : Int32) (o_x_p0_code : Nat → Int32), rec_Ta_readLevel p1 p2 x_p0_length x_p0_codeLength x_p0_at x_p0_letters x_p0_code = some (r0, o_x_p0_codeLength, o_x_p0_at, o_x_p0_code) → CT l y_Ta_readLevel prog_9_method_8_code 6 (some .boolean) { frames := fr, cells := 0, slots := 0, locals := lo } D dA [.ref a_p0, .int p1, .int p2] [O_Ta a_p0 a_p0_letters x_p0_length a_p0_code x_p0_codeLength x_p0_at, A_I dA a_p0_letters 120 x_p0_letters, A_I dA a_p0_code 256 x_p0_code] (some (.int (b2i r0))) (fun _ : Unit => [O_Ta a_p0 a_p0_letters x_p0_length a_p0_code o_x_p0_codeLength o_x_p0_at, A_I dA a_p0_letters 120 x_p0_letters, A_I dA a_p0_code 256 o_x_p0_code])) (rec_Ta_readOperand : Int32 → Int32 → Int32 → Int32 → (Nat → Int32) → (Nat → Int32) → Option (Bool × Int32 × Int32 × (Nat → Int32))) (hrec_Ta_readOperand : ∀ (a_p0 : Nat) (a_p0_letters : Nat) (a_p0_code : Nat) (p1 : Int32) (x_p0_length : Int32) (x_p0_codeLength : Int32) (x_p0_at : Int32) (x_p0_letters : Nat → Int32) (x_p0_code : Nat → Int32) (r0 : Bool) (o_x_p0_codeLength : Int32) (o_x_p0_at : Int32) (o_x_p0_code : Nat → Int32), rec_Ta_readOperand p1 x_p0_length x_p0_codeLength x_p0_at x_p0_letters x_p0_code = some (r0, o_x_p0_codeLength, o_x_p0_at, o_x_p0_code) → CT l y_Ta_readOperand prog_9_method_9_code 3 (some .boolean) { frames := fr, cells := 0, slots := 0, locals := lo } D dA [.ref a_p0, .int p1] [O_Ta a_p0 a_p0_letters x_p0_length a_p0_code x_p0_codeLength x_p0_at, A_I dA a_p0_letters 120 x_p0_letters, A_I dA a_p0_code 256 x_p0_code] (some (.int (b2i r0))) (fun _ : Unit => [O_Ta a_p0 a_p0_letters x_p0_length a_p0_code o_x_p0_codeLength o_x_p0_at, A_I dA a_p0_letters 120 x_p0_letters, A_I dA a_p0_code 256 o_x_p0_code]))  (v2 : Int32) (x_p0_codeLength : Int32) (x_p0_at : Int32) (x_p0_code : Nat → Int32) (hf : f_Ta_readOperand_L42 rec_Ta_readLevel rec_Ta_readOperand  v2 x_p0_codeLength x_p0_at x_p0_code = some (r0, o_x_p0_codeLength, o_x_p0_at, o_x_p0_code)) : GG p l e { frames := fr + 2, cells := 0, slots := 0, locals := lo + 43 } s m args below meth c 3 D A 0 0 (MQ below (cQ D A (some (.int (b2i r0))) (fun _ : Unit => [O_Ta a_p0 a_p0_letters x_p0_length a_p0_code o_x_p0_codeLength o_x_p0_at, A_I dA a_p0_letters 120 x_p0_letters, A_I dA a_p0_code 256 o_x_p0_code])) args s 0 0 A) 42 [(0, .ref a_p0), (2, .int v2)] [] [O_Ta a_p0 a_p0_letters x_p0_length a_p0_code x_p0_codeLength x_p0_at, A_I dA a_p0_letters 120 x_p0_letters, A_I dA a_p0_code 256 x_p0_code] := by
  unfold f_Ta_readOperand_L42 at hf
  refine g_aload_n (pc' := 43) C 0 d_Ta_readOperand_42 rfl rfl ?_
  refine g_iload_n (pc' := 44) C 1 d_Ta_readOperand_43 rfl rfl ?_
  refine g_ineg (pc' := 45) C d_Ta_readOperand_44 rfl ?_
  replace hf := g_bi hf; obtain ⟨⟨u1, u2⟩, hc3, hf⟩ := hf
  dsimp only at hf
  refine g_callV (pc' := 48) (st1 := []) (ws1 := [O_Ta a_p0 a_p0_letters x_p0_length a_p0_code u1 x_p0_at, A_I dA a_p0_letters 120 x_p0_letters, A_I dA a_p0_code 256 u2]) C (c_Ta_write (l := l) (D := D) (dA := dA) (a_o := a_p0) (a_o_letters := a_p0_letters) (a_o_code := a_p0_code) (x_o_length := x_p0_length) (x_o_at := x_p0_at)   hc3) yy_Ta_write kf_Ta rfl mw_2_156 d_Ta_readOperand_45 rfl [] rfl rfl (Nat.le_of_ble_eq_true rfl) ⟨(by show 0 + 1 ≤ fr + 2; omega), (by show 8 + (2 + 11) + (0) ≤ lo + 43; omega)⟩ rfl rfl (Nat.zero_le _) (Nat.zero_le _) 0 rfl [0, 2] rfl (by decide +kernel) rfl (g_lay_sel _ _ _ _ [(0, true), (1, false), (1, true)] (by decide +kernel) rfl (by decide +kernel) rfl rfl) rfl ?_
  refine g_aload_n (pc' := 49) C 0 d_Ta_readOperand_48 rfl rfl ?_
  refine g_dup (pc' := 50) C d_Ta_readOperand_49 rfl rfl ?_
  refine g_get (pc' := 53) C kf_Ta 4 mw_1_164 d_Ta_readOperand_50 rfl 0 rfl (by decide) rfl ?_
  refine g_iconst (pc' := 54) (v := 1) C d_Ta_readOperand_53 rfl rfl ?_
  refine g_iadd (pc' := 55) C d_Ta_readOperand_54 rfl ?_
  refine g_put (pc' := 58) (ws' := [O_Ta a_p0 a_p0_letters x_p0_length a_p0_code u1 (x_p0_at + (1 : Int32)), A_I dA a_p0_letters 120 x_p0_letters, A_I dA a_p0_code 256 u2]) C kf_Ta 4 mw_1_164 d_Ta_readOperand_55 rfl 0 rfl (by decide) rfl rfl rfl (Nat.le_of_ble_eq_true rfl) rfl ?_
  refine g_iconst (pc' := 59) (v := 1) C d_Ta_readOperand_58 rfl rfl ?_
  replace hf := g_o2 hf; obtain ⟨h1, hf⟩ := hf; subst h1
  replace hf := g_o2 hf; obtain ⟨h1, hf⟩ := hf; subst h1
  replace hf := g_o2 hf; obtain ⟨h1, hf⟩ := hf; subst h1
  replace hf := Option.some.inj hf; subst hf
  exact g_zret C d_Ta_readOperand_59 () rfl
def f_Ta_readOperand_L162 (rec_Ta_readLevel : Int32 → Int32 → Int32 → Int32 → Int32 → (Nat → Int32) → (Nat → Int32) → Option (Bool × Int32 × Int32 × (Nat → Int32))) (rec_Ta_readOperand : Int32 → Int32 → Int32 → Int32 → (Nat → Int32) → (Nat → Int32) → Option (Bool × Int32 × Int32 × (Nat → Int32)))  (s0 : Int32) (x_p0_codeLength : Int32) (x_p0_at : Int32) (x_p0_code : Nat → Int32) : Option (Bool × Int32 × Int32 × (Nat → Int32)) :=
  (f_Ta_write  s0 x_p0_codeLength x_p0_code).bind fun (u16, u17) =>
  some (true, u16, x_p0_at, u17)
set_option maxRecDepth 20000 in
theorem w_Ta_readOperand_L162 {p : Program} {l : Launch} {e : Env} {s : State} {m : MethodId} {args : Array Value} {below : List Frame} {meth : Method} {c : Code} {D : va_G} {dA : Nat → ClassId} {A : Nat → Prop} (C : GC p s m args meth c prog_9_method_9_code 3 "OneLamp$Tape" (some .boolean) D dA A) {a_p0 a_p0_letters a_p0_code : Nat} {x_p0_length : Int32} {x_p0_letters : Nat → Int32} {r0 : Bool} {o_x_p0_codeLength : Int32} {o_x_p0_at : Int32} {o_x_p0_code : Nat → Int32}  {fr lo : Nat} (rec_Ta_readLevel : Int32 → Int32 → Int32 → Int32 → Int32 → (Nat → Int32) → (Nat → Int32) → Option (Bool × Int32 × Int32 × (Nat → Int32))) (hrec_Ta_readLevel : ∀ (a_p0 : Nat) (a_p0_letters : Nat) (a_p0_code : Nat) (p1 : Int32) (p2 : Int32) (x_p0_length : Int32) (x_p0_codeLength : Int32) (x_p0_at : Int32) (x_p0_letters : Nat → Int32) (x_p0_code : Nat → Int32) (r0 : Bool) (o_x_p0_codeLength : Int32) (o_x_p0_at : Int32) (o_x_p0_code : Nat → Int32), rec_Ta_readLevel p1 p2 x_p0_length x_p0_codeLength x_p0_at x_p0_letters x_p0_code = some (r0, o_x_p0_codeLength, o_x_p0_at, o_x_p0_code) → CT l y_Ta_readLevel prog_9_method_8_code 6 (some .boolean) { frames := fr, cells := 0, slots := 0, locals := lo } D dA [.ref a_p0, .int p1, .int p2] [O_Ta a_p0 a_p0_letters x_p0_length a_p0_code x_p0_codeLength x_p0_at, A_I dA a_p0_letters 120 x_p0_letters, A_I dA a_p0_code 256 x_p0_code] (some (.int (b2i r0))) (fun _ : Unit => [O_Ta a_p0 a_p0_letters x_p0_length a_p0_code o_x_p0_codeLength o_x_p0_at, A_I dA a_p0_letters 120 x_p0_letters, A_I dA a_p0_code 256 o_x_p0_code])) (rec_Ta_readOperand : Int32 → Int32 → Int32 → Int32 → (Nat → Int32) → (Nat → Int32) → Option (Bool × Int32 × Int32 × (Nat → Int32))) (hrec_Ta_readOperand : ∀ (a_p0 : Nat) (a_p0_letters : Nat) (a_p0_code : Nat) (p1 : Int32) (x_p0_length : Int32) (x_p0_codeLength : Int32) (x_p0_at : Int32) (x_p0_letters : Nat → Int32) (x_p0_code : Nat → Int32) (r0 : Bool) (o_x_p0_codeLength : Int32) (o_x_p0_at : Int32) (o_x_p0_code : Nat → Int32), rec_Ta_readOperand p1 x_p0_length x_p0_codeLength x_p0_at x_p0_letters x_p0_code = some (r0, o_x_p0_codeLength, o_x_p0_at, o_x_p0_code) → CT l y_Ta_readOperand prog_9_method_9_code 3 (some .boolean) { frames := fr, cells := 0, slots := 0, locals := lo } D dA [.ref a_p0, .int p1] [O_Ta a_p0 a_p0_letters x_p0_length a_p0_code x_p0_codeLength x_p0_at, A_I dA a_p0_letters 120 x_p0_letters, A_I dA a_p0_code 256 x_p0_code] (some (.int (b2i r0))) (fun _ : Unit => [O_Ta a_p0 a_p0_letters x_p0_length a_p0_code o_x_p0_codeLength o_x_p0_at, A_I dA a_p0_letters 120 x_p0_letters, A_I dA a_p0_code 256 o_x_p0_code]))  (s0 : Int32) (x_p0_codeLength : Int32) (x_p0_at : Int32) (x_p0_code : Nat → Int32) (hf : f_Ta_readOperand_L162 rec_Ta_readLevel rec_Ta_readOperand  s0 x_p0_codeLength x_p0_at x_p0_code = some (r0, o_x_p0_codeLength, o_x_p0_at, o_x_p0_code)) : GG p l e { frames := fr + 2, cells := 0, slots := 0, locals := lo + 43 } s m args below meth c 3 D A 0 0 (MQ below (cQ D A (some (.int (b2i r0))) (fun _ : Unit => [O_Ta a_p0 a_p0_letters x_p0_length a_p0_code o_x_p0_codeLength o_x_p0_at, A_I dA a_p0_letters 120 x_p0_letters, A_I dA a_p0_code 256 o_x_p0_code])) args s 0 0 A) 162 [] [.int s0, .ref a_p0] [O_Ta a_p0 a_p0_letters x_p0_length a_p0_code x_p0_codeLength x_p0_at, A_I dA a_p0_letters 120 x_p0_letters, A_I dA a_p0_code 256 x_p0_code] := by
  unfold f_Ta_readOperand_L162 at hf
  replace hf := g_bi hf; obtain ⟨⟨u16, u17⟩, hc18, hf⟩ := hf
  dsimp only at hf
  refine g_callV (pc' := 165) (st1 := []) (ws1 := [O_Ta a_p0 a_p0_letters x_p0_length a_p0_code u16 x_p0_at, A_I dA a_p0_letters 120 x_p0_letters, A_I dA a_p0_code 256 u17]) C (c_Ta_write (l := l) (D := D) (dA := dA) (a_o := a_p0) (a_o_letters := a_p0_letters) (a_o_code := a_p0_code) (x_o_length := x_p0_length) (x_o_at := x_p0_at)   hc18) yy_Ta_write kf_Ta rfl mw_2_156 d_Ta_readOperand_162 rfl [] rfl rfl (Nat.le_of_ble_eq_true rfl) ⟨(by show 0 + 1 ≤ fr + 2; omega), (by show 8 + (2 + 11) + (0) ≤ lo + 43; omega)⟩ rfl rfl (Nat.zero_le _) (Nat.zero_le _) 0 rfl [0, 2] rfl (by decide +kernel) rfl (g_lay_sel _ _ _ _ [(0, true), (1, false), (1, true)] (by decide +kernel) rfl (by decide +kernel) rfl rfl) rfl ?_
  refine g_iconst (pc' := 166) (v := 1) C d_Ta_readOperand_165 rfl rfl ?_
  replace hf := g_o2 hf; obtain ⟨h1, hf⟩ := hf; subst h1
  replace hf := g_o2 hf; obtain ⟨h1, hf⟩ := hf; subst h1
  replace hf := g_o2 hf; obtain ⟨h1, hf⟩ := hf; subst h1
  replace hf := Option.some.inj hf; subst hf
  exact g_zret C d_Ta_readOperand_166 () rfl
def f_Ta_readOperand_L86 (rec_Ta_readLevel : Int32 → Int32 → Int32 → Int32 → Int32 → (Nat → Int32) → (Nat → Int32) → Option (Bool × Int32 × Int32 × (Nat → Int32))) (rec_Ta_readOperand : Int32 → Int32 → Int32 → Int32 → (Nat → Int32) → (Nat → Int32) → Option (Bool × Int32 × Int32 × (Nat → Int32)))  (v1 : Int32) (v2 : Int32) (x_p0_length : Int32) (x_p0_codeLength : Int32) (x_p0_at : Int32) (x_p0_letters : Nat → Int32) (x_p0_code : Nat → Int32) : Option (Bool × Int32 × Int32 × (Nat → Int32)) :=
  if v2 = (40 : Int32) then
    ((rec_Ta_readLevel  (0 : Int32) (v1 + (1 : Int32)) x_p0_length x_p0_codeLength (x_p0_at + (1 : Int32)) x_p0_letters x_p0_code).bind fun (r9, u10, u11, u12) =>
    if r9 = true then
      ((f_Ta_letter  x_p0_length u11 x_p0_letters).bind fun r14 =>
      if r14 = (41 : Int32) then
        (some (true, u10, (u11 + (1 : Int32)), u12))
      else
        (some (false, u10, u11, u12)))
    else
      (some (false, u10, u11, u12)))
  else
    ((rec_Ta_readOperand  (v1 + (1 : Int32)) x_p0_length x_p0_codeLength (x_p0_at + (1 : Int32)) x_p0_letters x_p0_code).bind fun (r4, u5, u6, u7) =>
    if r4 = true then
      (if v2 = (33 : Int32) then
        (f_Ta_readOperand_L162 rec_Ta_readLevel rec_Ta_readOperand (-33 : Int32) u5 u6 u7)
      else
        (f_Ta_readOperand_L162 rec_Ta_readLevel rec_Ta_readOperand (-126 : Int32) u5 u6 u7))
    else
      (some (false, u5, u6, u7)))
set_option maxRecDepth 20000 in
theorem w_Ta_readOperand_L86 {p : Program} {l : Launch} {e : Env} {s : State} {m : MethodId} {args : Array Value} {below : List Frame} {meth : Method} {c : Code} {D : va_G} {dA : Nat → ClassId} {A : Nat → Prop} (C : GC p s m args meth c prog_9_method_9_code 3 "OneLamp$Tape" (some .boolean) D dA A) {a_p0 a_p0_letters a_p0_code : Nat}  {r0 : Bool} {o_x_p0_codeLength : Int32} {o_x_p0_at : Int32} {o_x_p0_code : Nat → Int32}  {fr lo : Nat} (rec_Ta_readLevel : Int32 → Int32 → Int32 → Int32 → Int32 → (Nat → Int32) → (Nat → Int32) → Option (Bool × Int32 × Int32 × (Nat → Int32))) (hrec_Ta_readLevel : ∀ (a_p0 : Nat) (a_p0_letters : Nat) (a_p0_code : Nat) (p1 : Int32) (p2 : Int32) (x_p0_length : Int32) (x_p0_codeLength : Int32) (x_p0_at : Int32) (x_p0_letters : Nat → Int32) (x_p0_code : Nat → Int32) (r0 : Bool) (o_x_p0_codeLength : Int32) (o_x_p0_at : Int32) (o_x_p0_code : Nat → Int32), rec_Ta_readLevel p1 p2 x_p0_length x_p0_codeLength x_p0_at x_p0_letters x_p0_code = some (r0, o_x_p0_codeLength, o_x_p0_at, o_x_p0_code) → CT l y_Ta_readLevel prog_9_method_8_code 6 (some .boolean) { frames := fr, cells := 0, slots := 0, locals := lo } D dA [.ref a_p0, .int p1, .int p2] [O_Ta a_p0 a_p0_letters x_p0_length a_p0_code x_p0_codeLength x_p0_at, A_I dA a_p0_letters 120 x_p0_letters, A_I dA a_p0_code 256 x_p0_code] (some (.int (b2i r0))) (fun _ : Unit => [O_Ta a_p0 a_p0_letters x_p0_length a_p0_code o_x_p0_codeLength o_x_p0_at, A_I dA a_p0_letters 120 x_p0_letters, A_I dA a_p0_code 256 o_x_p0_code])) (rec_Ta_readOperand : Int32 → Int32 → Int32 → Int32 → (Nat → Int32) → (Nat → Int32) → Option (Bool × Int32 × Int32 × (Nat → Int32))) (hrec_Ta_readOperand : ∀ (a_p0 : Nat) (a_p0_letters : Nat) (a_p0_code : Nat) (p1 : Int32) (x_p0_length : Int32) (x_p0_codeLength : Int32) (x_p0_at : Int32) (x_p0_letters : Nat → Int32) (x_p0_code : Nat → Int32) (r0 : Bool) (o_x_p0_codeLength : Int32) (o_x_p0_at : Int32) (o_x_p0_code : Nat → Int32), rec_Ta_readOperand p1 x_p0_length x_p0_codeLength x_p0_at x_p0_letters x_p0_code = some (r0, o_x_p0_codeLength, o_x_p0_at, o_x_p0_code) → CT l y_Ta_readOperand prog_9_method_9_code 3 (some .boolean) { frames := fr, cells := 0, slots := 0, locals := lo } D dA [.ref a_p0, .int p1] [O_Ta a_p0 a_p0_letters x_p0_length a_p0_code x_p0_codeLength x_p0_at, A_I dA a_p0_letters 120 x_p0_letters, A_I dA a_p0_code 256 x_p0_code] (some (.int (b2i r0))) (fun _ : Unit => [O_Ta a_p0 a_p0_letters x_p0_length a_p0_code o_x_p0_codeLength o_x_p0_at, A_I dA a_p0_letters 120 x_p0_letters, A_I dA a_p0_code 256 o_x_p0_code]))  (v1 : Int32) (v2 : Int32) (x_p0_length : Int32) (x_p0_codeLength : Int32) (x_p0_at : Int32) (x_p0_letters : Nat → Int32) (x_p0_code : Nat → Int32) (hf : f_Ta_readOperand_L86 rec_Ta_readLevel rec_Ta_readOperand  v1 v2 x_p0_length x_p0_codeLength x_p0_at x_p0_letters x_p0_code = some (r0, o_x_p0_codeLength, o_x_p0_at, o_x_p0_code)) : GG p l e { frames := fr + 2, cells := 0, slots := 0, locals := lo + 43 } s m args below meth c 3 D A 0 0 (MQ below (cQ D A (some (.int (b2i r0))) (fun _ : Unit => [O_Ta a_p0 a_p0_letters x_p0_length a_p0_code o_x_p0_codeLength o_x_p0_at, A_I dA a_p0_letters 120 x_p0_letters, A_I dA a_p0_code 256 o_x_p0_code])) args s 0 0 A) 86 [(0, .ref a_p0), (1, .int v1), (2, .int v2)] [] [O_Ta a_p0 a_p0_letters x_p0_length a_p0_code x_p0_codeLength x_p0_at, A_I dA a_p0_letters 120 x_p0_letters, A_I dA a_p0_code 256 x_p0_code] := by
  unfold f_Ta_readOperand_L86 at hf
  refine g_aload_n (pc' := 87) C 0 d_Ta_readOperand_86 rfl rfl ?_
  refine g_dup (pc' := 88) C d_Ta_readOperand_87 rfl rfl ?_
  refine g_get (pc' := 91) C kf_Ta 4 mw_1_164 d_Ta_readOperand_88 rfl 0 rfl (by decide) rfl ?_
  refine g_iconst (pc' := 92) (v := 1) C d_Ta_readOperand_91 rfl rfl ?_
  refine g_iadd (pc' := 93) C d_Ta_readOperand_92 rfl ?_
  refine g_put (pc' := 96) (ws' := [O_Ta a_p0 a_p0_letters x_p0_length a_p0_code x_p0_codeLength (x_p0_at + (1 : Int32)), A_I dA a_p0_letters 120 x_p0_letters, A_I dA a_p0_code 256 x_p0_code]) C kf_Ta 4 mw_1_164 d_Ta_readOperand_93 rfl 0 rfl (by decide) rfl rfl rfl (Nat.le_of_ble_eq_true rfl) rfl ?_
  refine g_iload_n (pc' := 97) C 2 d_Ta_readOperand_96 rfl rfl ?_
  refine g_bipush (pc' := 99) (v := 40) C d_Ta_readOperand_97 rfl rfl ?_
  refine g_icmp_ne (pc' := 102) (tgt := 136) C d_Ta_readOperand_99 rfl rfl (fun h => ?_) (fun h => ?_)
  · replace hf := g_in h hf
    refine g_aload_n (pc' := 137) C 0 d_Ta_readOperand_136 rfl rfl ?_
    refine g_iload_n (pc' := 138) C 1 d_Ta_readOperand_137 rfl rfl ?_
    refine g_iconst (pc' := 139) (v := 1) C d_Ta_readOperand_138 rfl rfl ?_
    refine g_iadd (pc' := 140) C d_Ta_readOperand_139 rfl ?_
    replace hf := g_bi hf; obtain ⟨⟨r4, u5, u6, u7⟩, hc8, hf⟩ := hf
    dsimp only at hf
    refine g_callS (pc' := 143) (st1 := [.int (b2i r4)]) (ws1 := [O_Ta a_p0 a_p0_letters x_p0_length a_p0_code u5 u6, A_I dA a_p0_letters 120 x_p0_letters, A_I dA a_p0_code 256 u7]) C (hrec_Ta_readOperand a_p0 a_p0_letters a_p0_code (v1 + (1 : Int32)) x_p0_length x_p0_codeLength (x_p0_at + (1 : Int32)) x_p0_letters x_p0_code _ _ _ _ hc8) yy_Ta_readOperand mw_2_142 d_Ta_readOperand_140 rfl [] rfl rfl (Nat.le_of_ble_eq_true rfl) ⟨(by show fr + 1 ≤ fr + 2; omega), (by show 8 + (3 + 11) + (lo) ≤ lo + 43; omega)⟩ rfl rfl (Nat.zero_le _) (Nat.zero_le _) [0, 1, 2] rfl (by decide +kernel) rfl (g_lay_sel _ _ _ _ [(0, true), (1, true), (2, true)] (by decide +kernel) rfl (by decide +kernel) rfl rfl) rfl ?_
    refine g_if_neb (pc' := 146) (tgt := 148) C d_Ta_readOperand_143 rfl rfl (fun h => ?_) (fun h => ?_)
    · replace hf := g_bt h hf
      refine g_aload_n (pc' := 149) C 0 d_Ta_readOperand_148 rfl rfl ?_
      refine g_iload_n (pc' := 150) C 2 d_Ta_readOperand_149 rfl rfl ?_
      refine g_bipush (pc' := 152) (v := 33) C d_Ta_readOperand_150 rfl rfl ?_
      refine g_icmp_ne (pc' := 155) (tgt := 160) C d_Ta_readOperand_152 rfl rfl (fun h => ?_) (fun h => ?_)
      · replace hf := g_in h hf
        refine g_bipush (pc' := 162) (v := (-126)) C d_Ta_readOperand_160 rfl rfl ?_
        refine g_lv (lv' := []) [] rfl ?_
        exact w_Ta_readOperand_L162 (a_p0 := a_p0) (a_p0_letters := a_p0_letters) (a_p0_code := a_p0_code) C  rec_Ta_readLevel hrec_Ta_readLevel rec_Ta_readOperand hrec_Ta_readOperand (-126 : Int32) u5 u6 u7 hf
      · replace hf := g_ip h hf
        refine g_bipush (pc' := 157) (v := (-33)) C d_Ta_readOperand_155 rfl rfl ?_
        refine g_goto (tgt := 162) C d_Ta_readOperand_157 rfl ?_
        refine g_lv (lv' := []) [] rfl ?_
        exact w_Ta_readOperand_L162 (a_p0 := a_p0) (a_p0_letters := a_p0_letters) (a_p0_code := a_p0_code) C  rec_Ta_readLevel hrec_Ta_readLevel rec_Ta_readOperand hrec_Ta_readOperand (-33 : Int32) u5 u6 u7 hf
    · replace hf := g_bf h hf
      refine g_iconst (pc' := 147) (v := 0) C d_Ta_readOperand_146 rfl rfl ?_
      replace hf := g_o2 hf; obtain ⟨h1, hf⟩ := hf; subst h1
      replace hf := g_o2 hf; obtain ⟨h1, hf⟩ := hf; subst h1
      replace hf := g_o2 hf; obtain ⟨h1, hf⟩ := hf; subst h1
      replace hf := Option.some.inj hf; subst hf
      exact g_zret C d_Ta_readOperand_147 () rfl
  · replace hf := g_ip h hf
    refine g_aload_n (pc' := 103) C 0 d_Ta_readOperand_102 rfl rfl ?_
    refine g_iconst (pc' := 104) (v := 0) C d_Ta_readOperand_103 rfl rfl ?_
    refine g_iload_n (pc' := 105) C 1 d_Ta_readOperand_104 rfl rfl ?_
    refine g_iconst (pc' := 106) (v := 1) C d_Ta_readOperand_105 rfl rfl ?_
    refine g_iadd (pc' := 107) C d_Ta_readOperand_106 rfl ?_
    replace hf := g_bi hf; obtain ⟨⟨r9, u10, u11, u12⟩, hc13, hf⟩ := hf
    dsimp only at hf
    refine g_callS (pc' := 110) (st1 := [.int (b2i r9)]) (ws1 := [O_Ta a_p0 a_p0_letters x_p0_length a_p0_code u10 u11, A_I dA a_p0_letters 120 x_p0_letters, A_I dA a_p0_code 256 u12]) C (hrec_Ta_readLevel a_p0 a_p0_letters a_p0_code (0 : Int32) (v1 + (1 : Int32)) x_p0_length x_p0_codeLength (x_p0_at + (1 : Int32)) x_p0_letters x_p0_code _ _ _ _ hc13) yy_Ta_readLevel mw_2_139 d_Ta_readOperand_107 rfl [] rfl rfl (Nat.le_of_ble_eq_true rfl) ⟨(by show fr + 1 ≤ fr + 2; omega), (by show 8 + (6 + 11) + (lo) ≤ lo + 43; omega)⟩ rfl rfl (Nat.zero_le _) (Nat.zero_le _) [0, 1, 2] rfl (by decide +kernel) rfl (g_lay_sel _ _ _ _ [(0, true), (1, true), (2, true)] (by decide +kernel) rfl (by decide +kernel) rfl rfl) rfl ?_
    refine g_if_eqb (pc' := 113) (tgt := 122) C d_Ta_readOperand_110 rfl rfl (fun h => ?_) (fun h => ?_)
    · replace hf := g_bf h hf
      refine g_iconst (pc' := 123) (v := 0) C d_Ta_readOperand_122 rfl rfl ?_
      replace hf := g_o2 hf; obtain ⟨h1, hf⟩ := hf; subst h1
      replace hf := g_o2 hf; obtain ⟨h1, hf⟩ := hf; subst h1
      replace hf := g_o2 hf; obtain ⟨h1, hf⟩ := hf; subst h1
      replace hf := Option.some.inj hf; subst hf
      exact g_zret C d_Ta_readOperand_123 () rfl
    · replace hf := g_bt h hf
      refine g_aload_n (pc' := 114) C 0 d_Ta_readOperand_113 rfl rfl ?_
      replace hf := g_bi hf; obtain ⟨r14, hc15, hf⟩ := hf
      refine g_callV (pc' := 117) (st1 := [.int r14]) (ws1 := [O_Ta a_p0 a_p0_letters x_p0_length a_p0_code u10 u11, A_I dA a_p0_letters 120 x_p0_letters, A_I dA a_p0_code 256 u12]) C (c_Ta_letter (l := l) (D := D) (dA := dA) (a_o := a_p0) (a_o_letters := a_p0_letters) (a_o_code := a_p0_code) (x_o_codeLength := u10)   hc15) yy_Ta_letter kf_Ta rfl mw_2_145 d_Ta_readOperand_114 rfl [] rfl rfl (Nat.le_of_ble_eq_true rfl) ⟨(by show 0 + 1 ≤ fr + 2; omega), (by show 8 + (1 + 11) + (0) ≤ lo + 43; omega)⟩ rfl rfl (Nat.zero_le _) (Nat.zero_le _) 0 rfl [0, 1] rfl (by decide +kernel) rfl (g_lay_sel _ _ _ _ [(0, true), (1, true), (2, false)] (by decide +kernel) rfl (by decide +kernel) rfl rfl) rfl ?_
      refine g_bipush (pc' := 119) (v := 41) C d_Ta_readOperand_117 rfl rfl ?_
      refine g_icmp_eq (pc' := 122) (tgt := 124) C d_Ta_readOperand_119 rfl rfl (fun h => ?_) (fun h => ?_)
      · replace hf := g_ip h hf
        refine g_aload_n (pc' := 125) C 0 d_Ta_readOperand_124 rfl rfl ?_
        refine g_dup (pc' := 126) C d_Ta_readOperand_125 rfl rfl ?_
        refine g_get (pc' := 129) C kf_Ta 4 mw_1_164 d_Ta_readOperand_126 rfl 0 rfl (by decide) rfl ?_
        refine g_iconst (pc' := 130) (v := 1) C d_Ta_readOperand_129 rfl rfl ?_
        refine g_iadd (pc' := 131) C d_Ta_readOperand_130 rfl ?_
        refine g_put (pc' := 134) (ws' := [O_Ta a_p0 a_p0_letters x_p0_length a_p0_code u10 (u11 + (1 : Int32)), A_I dA a_p0_letters 120 x_p0_letters, A_I dA a_p0_code 256 u12]) C kf_Ta 4 mw_1_164 d_Ta_readOperand_131 rfl 0 rfl (by decide) rfl rfl rfl (Nat.le_of_ble_eq_true rfl) rfl ?_
        refine g_iconst (pc' := 135) (v := 1) C d_Ta_readOperand_134 rfl rfl ?_
        replace hf := g_o2 hf; obtain ⟨h1, hf⟩ := hf; subst h1
        replace hf := g_o2 hf; obtain ⟨h1, hf⟩ := hf; subst h1
        replace hf := g_o2 hf; obtain ⟨h1, hf⟩ := hf; subst h1
        replace hf := Option.some.inj hf; subst hf
        exact g_zret C d_Ta_readOperand_135 () rfl
      · replace hf := g_in h hf
        refine g_iconst (pc' := 123) (v := 0) C d_Ta_readOperand_122 rfl rfl ?_
        replace hf := g_o2 hf; obtain ⟨h1, hf⟩ := hf; subst h1
        replace hf := g_o2 hf; obtain ⟨h1, hf⟩ := hf; subst h1
        replace hf := g_o2 hf; obtain ⟨h1, hf⟩ := hf; subst h1
        replace hf := Option.some.inj hf; subst hf
        exact g_zret C d_Ta_readOperand_123 () rfl
def f_Ta_readOperand_body (rec_Ta_readLevel : Int32 → Int32 → Int32 → Int32 → Int32 → (Nat → Int32) → (Nat → Int32) → Option (Bool × Int32 × Int32 × (Nat → Int32))) (rec_Ta_readOperand : Int32 → Int32 → Int32 → Int32 → (Nat → Int32) → (Nat → Int32) → Option (Bool × Int32 × Int32 × (Nat → Int32))) (p1 : Int32) (x_p0_length : Int32) (x_p0_codeLength : Int32) (x_p0_at : Int32) (x_p0_letters : Nat → Int32) (x_p0_code : Nat → Int32) : Option (Bool × Int32 × Int32 × (Nat → Int32)) :=
  (f_Ta_letter  x_p0_length x_p0_at x_p0_letters).bind fun r19 =>
  (f_Ta_isDigit  r19).bind fun r21 =>
  if r21 = true then
    ((f_Ta_readNumber  x_p0_length x_p0_codeLength x_p0_at x_p0_letters x_p0_code).bind fun (u23, u24, u25) =>
    some (true, u23, u24, u25))
  else
    (if r19 = (112 : Int32) then
      (f_Ta_readOperand_L42 rec_Ta_readLevel rec_Ta_readOperand r19 x_p0_codeLength x_p0_at x_p0_code)
    else
      (if r19 = (108 : Int32) then
        (f_Ta_readOperand_L42 rec_Ta_readLevel rec_Ta_readOperand r19 x_p0_codeLength x_p0_at x_p0_code)
      else
        (if r19 = (110 : Int32) then
          (f_Ta_readOperand_L42 rec_Ta_readLevel rec_Ta_readOperand r19 x_p0_codeLength x_p0_at x_p0_code)
        else
          (if r19 = (104 : Int32) then
            (f_Ta_readOperand_L42 rec_Ta_readLevel rec_Ta_readOperand r19 x_p0_codeLength x_p0_at x_p0_code)
          else
            (if (6 : Int32) ≤ p1 then
              (some (false, x_p0_codeLength, x_p0_at, x_p0_code))
            else
              (if r19 = (40 : Int32) then
                (f_Ta_readOperand_L86 rec_Ta_readLevel rec_Ta_readOperand p1 r19 x_p0_length x_p0_codeLength x_p0_at x_p0_letters x_p0_code)
              else
                (if r19 = (33 : Int32) then
                  (f_Ta_readOperand_L86 rec_Ta_readLevel rec_Ta_readOperand p1 r19 x_p0_length x_p0_codeLength x_p0_at x_p0_letters x_p0_code)
                else
                  (if r19 = (45 : Int32) then
                    (f_Ta_readOperand_L86 rec_Ta_readLevel rec_Ta_readOperand p1 r19 x_p0_length x_p0_codeLength x_p0_at x_p0_letters x_p0_code)
                  else
                    (some (false, x_p0_codeLength, x_p0_at, x_p0_code))))))))))
set_option maxRecDepth 20000 in
theorem c_Ta_readOperand_body {l : Launch} {D : va_G} {dA : Nat → ClassId} {a_p0 a_p0_letters a_p0_code : Nat}  {p1 : Int32} {x_p0_length : Int32} {x_p0_codeLength : Int32} {x_p0_at : Int32} {x_p0_letters : Nat → Int32} {x_p0_code : Nat → Int32} {r0 : Bool} {o_x_p0_codeLength : Int32} {o_x_p0_at : Int32} {o_x_p0_code : Nat → Int32} {fr lo : Nat} (rec_Ta_readLevel : Int32 → Int32 → Int32 → Int32 → Int32 → (Nat → Int32) → (Nat → Int32) → Option (Bool × Int32 × Int32 × (Nat → Int32))) (hrec_Ta_readLevel : ∀ (a_p0 : Nat) (a_p0_letters : Nat) (a_p0_code : Nat) (p1 : Int32) (p2 : Int32) (x_p0_length : Int32) (x_p0_codeLength : Int32) (x_p0_at : Int32) (x_p0_letters : Nat → Int32) (x_p0_code : Nat → Int32) (r0 : Bool) (o_x_p0_codeLength : Int32) (o_x_p0_at : Int32) (o_x_p0_code : Nat → Int32), rec_Ta_readLevel p1 p2 x_p0_length x_p0_codeLength x_p0_at x_p0_letters x_p0_code = some (r0, o_x_p0_codeLength, o_x_p0_at, o_x_p0_code) → CT l y_Ta_readLevel prog_9_method_8_code 6 (some .boolean) { frames := fr, cells := 0, slots := 0, locals := lo } D dA [.ref a_p0, .int p1, .int p2] [O_Ta a_p0 a_p0_letters x_p0_length a_p0_code x_p0_codeLength x_p0_at, A_I dA a_p0_letters 120 x_p0_letters, A_I dA a_p0_code 256 x_p0_code] (some (.int (b2i r0))) (fun _ : Unit => [O_Ta a_p0 a_p0_letters x_p0_length a_p0_code o_x_p0_codeLength o_x_p0_at, A_I dA a_p0_letters 120 x_p0_letters, A_I dA a_p0_code 256 o_x_p0_code])) (rec_Ta_readOperand : Int32 → Int32 → Int32 → Int32 → (Nat → Int32) → (Nat → Int32) → Option (Bool × Int32 × Int32 × (Nat → Int32))) (hrec_Ta_readOperand : ∀ (a_p0 : Nat) (a_p0_letters : Nat) (a_p0_code : Nat) (p1 : Int32) (x_p0_length : Int32) (x_p0_codeLength : Int32) (x_p0_at : Int32) (x_p0_letters : Nat → Int32) (x_p0_code : Nat → Int32) (r0 : Bool) (o_x_p0_codeLength : Int32) (o_x_p0_at : Int32) (o_x_p0_code : Nat → Int32), rec_Ta_readOperand p1 x_p0_length x_p0_codeLength x_p0_at x_p0_letters x_p0_code = some (r0, o_x_p0_codeLength, o_x_p0_at, o_x_p0_code) → CT l y_Ta_readOperand prog_9_method_9_code 3 (some .boolean) { frames := fr, cells := 0, slots := 0, locals := lo } D dA [.ref a_p0, .int p1] [O_Ta a_p0 a_p0_letters x_p0_length a_p0_code x_p0_codeLength x_p0_at, A_I dA a_p0_letters 120 x_p0_letters, A_I dA a_p0_code 256 x_p0_code] (some (.int (b2i r0))) (fun _ : Unit => [O_Ta a_p0 a_p0_letters x_p0_length a_p0_code o_x_p0_codeLength o_x_p0_at, A_I dA a_p0_letters 120 x_p0_letters, A_I dA a_p0_code 256 o_x_p0_code]))  (hf : f_Ta_readOperand_body rec_Ta_readLevel rec_Ta_readOperand p1 x_p0_length x_p0_codeLength x_p0_at x_p0_letters x_p0_code = some (r0, o_x_p0_codeLength, o_x_p0_at, o_x_p0_code)) : CT l y_Ta_readOperand prog_9_method_9_code 3 (some .boolean) { frames := fr + 2, cells := 0, slots := 0, locals := lo + 43 } D dA [.ref a_p0, .int p1] [O_Ta a_p0 a_p0_letters x_p0_length a_p0_code x_p0_codeLength x_p0_at, A_I dA a_p0_letters 120 x_p0_letters, A_I dA a_p0_code 256 x_p0_code] (some (.int (b2i r0))) (fun _ : Unit => [O_Ta a_p0 a_p0_letters x_p0_length a_p0_code o_x_p0_codeLength o_x_p0_at, A_I dA a_p0_letters 120 x_p0_letters, A_I dA a_p0_code 256 o_x_p0_code]) := by
  refine ct_intro "OneLamp$Tape" rfl (by decide +kernel) (Nat.le_of_ble_eq_true rfl) [(0, .ref a_p0), (1, .int p1)] rfl (fun _ C => ?_)
  unfold f_Ta_readOperand_body at hf
  refine g_aload_n (pc' := 1) C 0 d_Ta_readOperand_0 rfl rfl ?_
  replace hf := g_bi hf; obtain ⟨r19, hc20, hf⟩ := hf
  refine g_callV (pc' := 4) (st1 := [.int r19]) (ws1 := [O_Ta a_p0 a_p0_letters x_p0_length a_p0_code x_p0_codeLength x_p0_at, A_I dA a_p0_letters 120 x_p0_letters, A_I dA a_p0_code 256 x_p0_code]) C (c_Ta_letter (l := l) (D := D) (dA := dA) (a_o := a_p0) (a_o_letters := a_p0_letters) (a_o_code := a_p0_code) (x_o_codeLength := x_p0_codeLength)   hc20) yy_Ta_letter kf_Ta rfl mw_2_145 d_Ta_readOperand_1 rfl [] rfl rfl (Nat.le_of_ble_eq_true rfl) ⟨(by show 0 + 1 ≤ fr + 2; omega), (by show 8 + (1 + 11) + (0) ≤ lo + 43; omega)⟩ rfl rfl (Nat.zero_le _) (Nat.zero_le _) 0 rfl [0, 1] rfl (by decide +kernel) rfl (g_lay_sel _ _ _ _ [(0, true), (1, true), (2, false)] (by decide +kernel) rfl (by decide +kernel) rfl rfl) rfl ?_
  refine g_istore_n (pc' := 5) (lv' := [(2, .int r19), (0, .ref a_p0), (1, .int p1)]) C d_Ta_readOperand_4 rfl (by decide) rfl ?_
  refine g_iload_n (pc' := 6) C 0 d_Ta_readOperand_5 rfl rfl ?_
  replace hf := g_bi hf; obtain ⟨r21, hc22, hf⟩ := hf
  refine g_callS (pc' := 9) (st1 := [.int (b2i r21)]) (ws1 := [O_Ta a_p0 a_p0_letters x_p0_length a_p0_code x_p0_codeLength x_p0_at, A_I dA a_p0_letters 120 x_p0_letters, A_I dA a_p0_code 256 x_p0_code]) C (c_Ta_isDigit (l := l) (D := D) (dA := dA)    hc22) yy_Ta_isDigit mw_2_149 d_Ta_readOperand_6 rfl [] rfl rfl (Nat.le_of_ble_eq_true rfl) ⟨(by show 0 + 1 ≤ fr + 2; omega), (by show 8 + (1 + 11) + (0) ≤ lo + 43; omega)⟩ rfl rfl (Nat.zero_le _) (Nat.zero_le _) [] rfl (by decide +kernel) rfl (g_lay_sel _ _ _ _ [(0, false), (1, false), (2, false)] (by decide +kernel) rfl (by decide +kernel) rfl rfl) rfl ?_
  refine g_if_eqb (pc' := 12) (tgt := 18) C d_Ta_readOperand_9 rfl rfl (fun h => ?_) (fun h => ?_)
  · replace hf := g_bf h hf
    refine g_iload_n (pc' := 19) C 0 d_Ta_readOperand_18 rfl rfl ?_
    refine g_bipush (pc' := 21) (v := 112) C d_Ta_readOperand_19 rfl rfl ?_
    refine g_icmp_eq (pc' := 24) (tgt := 42) C d_Ta_readOperand_21 rfl rfl (fun h => ?_) (fun h => ?_)
    · replace hf := g_ip h hf
      refine g_lv (lv' := [(0, .ref a_p0), (2, .int r19)]) [1, 0] rfl ?_
      exact w_Ta_readOperand_L42 (a_p0 := a_p0) (a_p0_letters := a_p0_letters) (a_p0_code := a_p0_code) C  rec_Ta_readLevel hrec_Ta_readLevel rec_Ta_readOperand hrec_Ta_readOperand r19 x_p0_codeLength x_p0_at x_p0_code hf
    · replace hf := g_in h hf
      refine g_iload_n (pc' := 25) C 0 d_Ta_readOperand_24 rfl rfl ?_
      refine g_bipush (pc' := 27) (v := 108) C d_Ta_readOperand_25 rfl rfl ?_
      refine g_icmp_eq (pc' := 30) (tgt := 42) C d_Ta_readOperand_27 rfl rfl (fun h => ?_) (fun h => ?_)
      · replace hf := g_ip h hf
        refine g_lv (lv' := [(0, .ref a_p0), (2, .int r19)]) [1, 0] rfl ?_
        exact w_Ta_readOperand_L42 (a_p0 := a_p0) (a_p0_letters := a_p0_letters) (a_p0_code := a_p0_code) C  rec_Ta_readLevel hrec_Ta_readLevel rec_Ta_readOperand hrec_Ta_readOperand r19 x_p0_codeLength x_p0_at x_p0_code hf
      · replace hf := g_in h hf
        refine g_iload_n (pc' := 31) C 0 d_Ta_readOperand_30 rfl rfl ?_
        refine g_bipush (pc' := 33) (v := 110) C d_Ta_readOperand_31 rfl rfl ?_
        refine g_icmp_eq (pc' := 36) (tgt := 42) C d_Ta_readOperand_33 rfl rfl (fun h => ?_) (fun h => ?_)
        · replace hf := g_ip h hf
          refine g_lv (lv' := [(0, .ref a_p0), (2, .int r19)]) [1, 0] rfl ?_
          exact w_Ta_readOperand_L42 (a_p0 := a_p0) (a_p0_letters := a_p0_letters) (a_p0_code := a_p0_code) C  rec_Ta_readLevel hrec_Ta_readLevel rec_Ta_readOperand hrec_Ta_readOperand r19 x_p0_codeLength x_p0_at x_p0_code hf
        · replace hf := g_in h hf
          refine g_iload_n (pc' := 37) C 0 d_Ta_readOperand_36 rfl rfl ?_
          refine g_bipush (pc' := 39) (v := 104) C d_Ta_readOperand_37 rfl rfl ?_
          refine g_icmp_ne (pc' := 42) (tgt := 60) C d_Ta_readOperand_39 rfl rfl (fun h => ?_) (fun h => ?_)
          · replace hf := g_in h hf
            refine g_iload_n (pc' := 61) C 2 d_Ta_readOperand_60 rfl rfl ?_
            refine g_bipush (pc' := 63) (v := 6) C d_Ta_readOperand_61 rfl rfl ?_
            refine g_icmp_ge (pc' := 66) (tgt := 84) C d_Ta_readOperand_63 rfl rfl (fun h => ?_) (fun h => ?_)
            · replace hf := g_ip h hf
              refine g_iconst (pc' := 85) (v := 0) C d_Ta_readOperand_84 rfl rfl ?_
              replace hf := g_o2 hf; obtain ⟨h1, hf⟩ := hf; subst h1
              replace hf := g_o2 hf; obtain ⟨h1, hf⟩ := hf; subst h1
              replace hf := g_o2 hf; obtain ⟨h1, hf⟩ := hf; subst h1
              replace hf := Option.some.inj hf; subst hf
              exact g_zret C d_Ta_readOperand_85 () rfl
            · replace hf := g_in h hf
              refine g_iload_n (pc' := 67) C 0 d_Ta_readOperand_66 rfl rfl ?_
              refine g_bipush (pc' := 69) (v := 40) C d_Ta_readOperand_67 rfl rfl ?_
              refine g_icmp_eq (pc' := 72) (tgt := 86) C d_Ta_readOperand_69 rfl rfl (fun h => ?_) (fun h => ?_)
              · replace hf := g_ip h hf
                refine g_lv (lv' := [(0, .ref a_p0), (1, .int p1), (2, .int r19)]) [1, 2, 0] rfl ?_
                exact w_Ta_readOperand_L86 (a_p0 := a_p0) (a_p0_letters := a_p0_letters) (a_p0_code := a_p0_code) C  rec_Ta_readLevel hrec_Ta_readLevel rec_Ta_readOperand hrec_Ta_readOperand p1 r19 x_p0_length x_p0_codeLength x_p0_at x_p0_letters x_p0_code hf
              · replace hf := g_in h hf
                refine g_iload_n (pc' := 73) C 0 d_Ta_readOperand_72 rfl rfl ?_
                refine g_bipush (pc' := 75) (v := 33) C d_Ta_readOperand_73 rfl rfl ?_
                refine g_icmp_eq (pc' := 78) (tgt := 86) C d_Ta_readOperand_75 rfl rfl (fun h => ?_) (fun h => ?_)
                · replace hf := g_ip h hf
                  refine g_lv (lv' := [(0, .ref a_p0), (1, .int p1), (2, .int r19)]) [1, 2, 0] rfl ?_
                  exact w_Ta_readOperand_L86 (a_p0 := a_p0) (a_p0_letters := a_p0_letters) (a_p0_code := a_p0_code) C  rec_Ta_readLevel hrec_Ta_readLevel rec_Ta_readOperand hrec_Ta_readOperand p1 r19 x_p0_length x_p0_codeLength x_p0_at x_p0_letters x_p0_code hf
                · replace hf := g_in h hf
                  refine g_iload_n (pc' := 79) C 0 d_Ta_readOperand_78 rfl rfl ?_
                  refine g_bipush (pc' := 81) (v := 45) C d_Ta_readOperand_79 rfl rfl ?_
                  refine g_icmp_eq (pc' := 84) (tgt := 86) C d_Ta_readOperand_81 rfl rfl (fun h => ?_) (fun h => ?_)
                  · replace hf := g_ip h hf
                    refine g_lv (lv' := [(0, .ref a_p0), (1, .int p1), (2, .int r19)]) [1, 2, 0] rfl ?_
                    exact w_Ta_readOperand_L86 (a_p0 := a_p0) (a_p0_letters := a_p0_letters) (a_p0_code := a_p0_code) C  rec_Ta_readLevel hrec_Ta_readLevel rec_Ta_readOperand hrec_Ta_readOperand p1 r19 x_p0_length x_p0_codeLength x_p0_at x_p0_letters x_p0_code hf
                  · replace hf := g_in h hf
                    refine g_iconst (pc' := 85) (v := 0) C d_Ta_readOperand_84 rfl rfl ?_
                    replace hf := g_o2 hf; obtain ⟨h1, hf⟩ := hf; subst h1
                    replace hf := g_o2 hf; obtain ⟨h1, hf⟩ := hf; subst h1
                    replace hf := g_o2 hf; obtain ⟨h1, hf⟩ := hf; subst h1
                    replace hf := Option.some.inj hf; subst hf
                    exact g_zret C d_Ta_readOperand_85 () rfl
          · replace hf := g_ip h hf
            refine g_lv (lv' := [(0, .ref a_p0), (2, .int r19)]) [1, 0] rfl ?_
            exact w_Ta_readOperand_L42 (a_p0 := a_p0) (a_p0_letters := a_p0_letters) (a_p0_code := a_p0_code) C  rec_Ta_readLevel hrec_Ta_readLevel rec_Ta_readOperand hrec_Ta_readOperand r19 x_p0_codeLength x_p0_at x_p0_code hf
  · replace hf := g_bt h hf
    refine g_aload_n (pc' := 13) C 1 d_Ta_readOperand_12 rfl rfl ?_
    replace hf := g_bi hf; obtain ⟨⟨u23, u24, u25⟩, hc26, hf⟩ := hf
    dsimp only at hf
    refine g_callV (pc' := 16) (st1 := []) (ws1 := [O_Ta a_p0 a_p0_letters x_p0_length a_p0_code u23 u24, A_I dA a_p0_letters 120 x_p0_letters, A_I dA a_p0_code 256 u25]) C (c_Ta_readNumber (l := l) (D := D) (dA := dA) (a_o := a_p0) (a_o_letters := a_p0_letters) (a_o_code := a_p0_code)   hc26) yy_Ta_readNumber kf_Ta rfl mw_2_152 d_Ta_readOperand_13 rfl [] rfl rfl (Nat.le_of_ble_eq_true rfl) ⟨(by show 1 + 1 ≤ fr + 2; omega), (by show 8 + (3 + 11) + (21) ≤ lo + 43; omega)⟩ rfl rfl (Nat.zero_le _) (Nat.zero_le _) 0 rfl [0, 1, 2] rfl (by decide +kernel) rfl (g_lay_sel _ _ _ _ [(0, true), (1, true), (2, true)] (by decide +kernel) rfl (by decide +kernel) rfl rfl) rfl ?_
    refine g_iconst (pc' := 17) (v := 1) C d_Ta_readOperand_16 rfl rfl ?_
    replace hf := g_o2 hf; obtain ⟨h1, hf⟩ := hf; subst h1
    replace hf := g_o2 hf; obtain ⟨h1, hf⟩ := hf; subst h1
    replace hf := g_o2 hf; obtain ⟨h1, hf⟩ := hf; subst h1
    replace hf := Option.some.inj hf; subst hf
    exact g_zret C d_Ta_readOperand_17 () rfl
def f_Ta_readOperand (rec_Ta_readLevel : Int32 → Int32 → Int32 → Int32 → Int32 → (Nat → Int32) → (Nat → Int32) → Option (Bool × Int32 × Int32 × (Nat → Int32))) : Nat → Int32 → Int32 → Int32 → Int32 → (Nat → Int32) → (Nat → Int32) → Option (Bool × Int32 × Int32 × (Nat → Int32))
  | 0, _, _, _, _, _, _ => none
  | n + 1, p1, x_p0_length, x_p0_codeLength, x_p0_at, x_p0_letters, x_p0_code => f_Ta_readOperand_body rec_Ta_readLevel (f_Ta_readOperand rec_Ta_readLevel n) p1 x_p0_length x_p0_codeLength x_p0_at x_p0_letters x_p0_code
set_option maxRecDepth 20000 in
theorem c_Ta_readOperand {l : Launch} {D : va_G} {dA : Nat → ClassId} {fr lo : Nat} (rec_Ta_readLevel : Int32 → Int32 → Int32 → Int32 → Int32 → (Nat → Int32) → (Nat → Int32) → Option (Bool × Int32 × Int32 × (Nat → Int32))) (hrec_Ta_readLevel : ∀ (a_p0 : Nat) (a_p0_letters : Nat) (a_p0_code : Nat) (p1 : Int32) (p2 : Int32) (x_p0_length : Int32) (x_p0_codeLength : Int32) (x_p0_at : Int32) (x_p0_letters : Nat → Int32) (x_p0_code : Nat → Int32) (r0 : Bool) (o_x_p0_codeLength : Int32) (o_x_p0_at : Int32) (o_x_p0_code : Nat → Int32), rec_Ta_readLevel p1 p2 x_p0_length x_p0_codeLength x_p0_at x_p0_letters x_p0_code = some (r0, o_x_p0_codeLength, o_x_p0_at, o_x_p0_code) → CT l y_Ta_readLevel prog_9_method_8_code 6 (some .boolean) { frames := fr, cells := 0, slots := 0, locals := lo } D dA [.ref a_p0, .int p1, .int p2] [O_Ta a_p0 a_p0_letters x_p0_length a_p0_code x_p0_codeLength x_p0_at, A_I dA a_p0_letters 120 x_p0_letters, A_I dA a_p0_code 256 x_p0_code] (some (.int (b2i r0))) (fun _ : Unit => [O_Ta a_p0 a_p0_letters x_p0_length a_p0_code o_x_p0_codeLength o_x_p0_at, A_I dA a_p0_letters 120 x_p0_letters, A_I dA a_p0_code 256 o_x_p0_code])) : ∀ (n : Nat), ∀ (a_p0 : Nat) (a_p0_letters : Nat) (a_p0_code : Nat) (p1 : Int32) (x_p0_length : Int32) (x_p0_codeLength : Int32) (x_p0_at : Int32) (x_p0_letters : Nat → Int32) (x_p0_code : Nat → Int32) (r0 : Bool) (o_x_p0_codeLength : Int32) (o_x_p0_at : Int32) (o_x_p0_code : Nat → Int32), f_Ta_readOperand rec_Ta_readLevel n p1 x_p0_length x_p0_codeLength x_p0_at x_p0_letters x_p0_code = some (r0, o_x_p0_codeLength, o_x_p0_at, o_x_p0_code) → CT l y_Ta_readOperand prog_9_method_9_code 3 (some .boolean) { frames := fr + 2 * n, cells := 0, slots := 0, locals := lo + 43 * n } D dA [.ref a_p0, .int p1] [O_Ta a_p0 a_p0_letters x_p0_length a_p0_code x_p0_codeLength x_p0_at, A_I dA a_p0_letters 120 x_p0_letters, A_I dA a_p0_code 256 x_p0_code] (some (.int (b2i r0))) (fun _ : Unit => [O_Ta a_p0 a_p0_letters x_p0_length a_p0_code o_x_p0_codeLength o_x_p0_at, A_I dA a_p0_letters 120 x_p0_letters, A_I dA a_p0_code 256 o_x_p0_code]) := by
  intro n
  induction n with
  | zero =>
    intro a_p0 a_p0_letters a_p0_code p1 x_p0_length x_p0_codeLength x_p0_at x_p0_letters x_p0_code r0 o_x_p0_codeLength o_x_p0_at o_x_p0_code hf
    cases hf
  | succ n ih =>
    intro a_p0 a_p0_letters a_p0_code p1 x_p0_length x_p0_codeLength x_p0_at x_p0_letters x_p0_code r0 o_x_p0_codeLength o_x_p0_at o_x_p0_code hf
    unfold f_Ta_readOperand at hf
    refine ct_mono (rm := { frames := (fr + 2 * n) + 2, cells := 0, slots := 0, locals := (lo + 43 * n) + 43 }) (by show (fr + 2 * n) + 2 ≤ fr + 2 * (n + 1); omega) (by show (lo + 43 * n) + 43 ≤ lo + 43 * (n + 1); omega) rfl rfl ?_
    exact c_Ta_readOperand_body (fr := fr + 2 * n) (lo := lo + 43 * n) rec_Ta_readLevel (fun a_p0 a_p0_letters a_p0_code p1 p2 x_p0_length x_p0_codeLength x_p0_at x_p0_letters x_p0_code r0 o_x_p0_codeLength o_x_p0_at o_x_p0_code hz => ct_mono (rm := { frames := fr, cells := 0, slots := 0, locals := lo }) (rm' := { frames := fr + 2 * n, cells := 0, slots := 0, locals := lo + 43 * n }) (Nat.le_add_right _ _) (Nat.le_add_right _ _) rfl rfl (hrec_Ta_readLevel a_p0 a_p0_letters a_p0_code p1 p2 x_p0_length x_p0_codeLength x_p0_at x_p0_letters x_p0_code r0 o_x_p0_codeLength o_x_p0_at o_x_p0_code hz)) (f_Ta_readOperand rec_Ta_readLevel n) ih hf
def f_Ta_readLevel_L39 (rec_Ta_readLevel : Int32 → Int32 → Int32 → Int32 → Int32 → (Nat → Int32) → (Nat → Int32) → Option (Bool × Int32 × Int32 × (Nat → Int32)))  : Nat → Int32 → Int32 → Int32 → Int32 → Int32 → Int32 → Int32 → (Nat → Int32) → (Nat → Int32) → Option (Bool × Int32 × Int32 × (Nat → Int32))
  | 0, _, _, _, _, _, _, _, _, _ => none
  | n + 1, v1, v2, v3, v4, x_p0_length, x_p0_codeLength, x_p0_at, x_p0_letters, x_p0_code =>
    if v3 ≤ v4 then
      (some (true, x_p0_codeLength, x_p0_at, x_p0_code))
    else
      ((f_Ta_letter  x_p0_length x_p0_at x_p0_letters).bind fun r1 =>
      (f_Ta_levelOf  r1).bind fun r3 =>
      if r3 = v1 then
        ((f_Ta_letter  x_p0_length x_p0_at x_p0_letters).bind fun r5 =>
        (rec_Ta_readLevel  (v1 + (1 : Int32)) v2 x_p0_length x_p0_codeLength (x_p0_at + (1 : Int32)) x_p0_letters x_p0_code).bind fun (r7, u8, u9, u10) =>
        if r7 = true then
          ((f_Ta_write  (-r5) u8 u10).bind fun (u12, u13) =>
          f_Ta_readLevel_L39 rec_Ta_readLevel n v1 v2 v3 (v4 + 1) x_p0_length u12 u9 x_p0_letters u13)
        else
          (some (false, u8, u9, u10)))
      else
        (some (true, x_p0_codeLength, x_p0_at, x_p0_code)))
set_option maxRecDepth 20000 in
theorem w_Ta_readLevel_L39 {p : Program} {l : Launch} {e : Env} {s : State} {m : MethodId} {args : Array Value} {below : List Frame} {meth : Method} {c : Code} {D : va_G} {dA : Nat → ClassId} {A : Nat → Prop} (C : GC p s m args meth c prog_9_method_8_code 6 "OneLamp$Tape" (some .boolean) D dA A) {a_p0 a_p0_letters a_p0_code : Nat}  {r0 : Bool} {o_x_p0_codeLength : Int32} {o_x_p0_at : Int32} {o_x_p0_code : Nat → Int32}  {fr lo : Nat} (rec_Ta_readLevel : Int32 → Int32 → Int32 → Int32 → Int32 → (Nat → Int32) → (Nat → Int32) → Option (Bool × Int32 × Int32 × (Nat → Int32))) (hrec_Ta_readLevel : ∀ (a_p0 : Nat) (a_p0_letters : Nat) (a_p0_code : Nat) (p1 : Int32) (p2 : Int32) (x_p0_length : Int32) (x_p0_codeLength : Int32) (x_p0_at : Int32) (x_p0_letters : Nat → Int32) (x_p0_code : Nat → Int32) (r0 : Bool) (o_x_p0_codeLength : Int32) (o_x_p0_at : Int32) (o_x_p0_code : Nat → Int32), rec_Ta_readLevel p1 p2 x_p0_length x_p0_codeLength x_p0_at x_p0_letters x_p0_code = some (r0, o_x_p0_codeLength, o_x_p0_at, o_x_p0_code) → CT l y_Ta_readLevel prog_9_method_8_code 6 (some .boolean) { frames := fr, cells := 0, slots := 0, locals := lo } D dA [.ref a_p0, .int p1, .int p2] [O_Ta a_p0 a_p0_letters x_p0_length a_p0_code x_p0_codeLength x_p0_at, A_I dA a_p0_letters 120 x_p0_letters, A_I dA a_p0_code 256 x_p0_code] (some (.int (b2i r0))) (fun _ : Unit => [O_Ta a_p0 a_p0_letters x_p0_length a_p0_code o_x_p0_codeLength o_x_p0_at, A_I dA a_p0_letters 120 x_p0_letters, A_I dA a_p0_code 256 o_x_p0_code]))  : ∀ (n : Nat) (v1 : Int32) (v2 : Int32) (v3 : Int32) (v4 : Int32) (x_p0_length : Int32) (x_p0_codeLength : Int32) (x_p0_at : Int32) (x_p0_letters : Nat → Int32) (x_p0_code : Nat → Int32), f_Ta_readLevel_L39 rec_Ta_readLevel  n v1 v2 v3 v4 x_p0_length x_p0_codeLength x_p0_at x_p0_letters x_p0_code = some (r0, o_x_p0_codeLength, o_x_p0_at, o_x_p0_code) → GG p l e { frames := fr + 17, cells := 0, slots := 0, locals := lo + 366 } s m args below meth c 6 D A 0 0 (MQ below (cQ D A (some (.int (b2i r0))) (fun _ : Unit => [O_Ta a_p0 a_p0_letters x_p0_length a_p0_code o_x_p0_codeLength o_x_p0_at, A_I dA a_p0_letters 120 x_p0_letters, A_I dA a_p0_code 256 o_x_p0_code])) args s 0 0 A) 39 [(0, .ref a_p0), (1, .int v1), (2, .int v2), (3, .int v3), (4, .int v4)] [] [O_Ta a_p0 a_p0_letters x_p0_length a_p0_code x_p0_codeLength x_p0_at, A_I dA a_p0_letters 120 x_p0_letters, A_I dA a_p0_code 256 x_p0_code] := by
  intro n
  induction n with
  | zero =>
    intro v1 v2 v3 v4 x_p0_length x_p0_codeLength x_p0_at x_p0_letters x_p0_code hf
    cases hf
  | succ n ih =>
    intro v1 v2 v3 v4 x_p0_length x_p0_codeLength x_p0_at x_p0_letters x_p0_code hf
    unfold f_Ta_readLevel_L39 at hf
    refine g_iload (pc' := 41) C 4 d_Ta_readLevel_39 rfl rfl ?_
    refine g_iload_n (pc' := 42) C 3 d_Ta_readLevel_41 rfl rfl ?_
    refine g_icmp_ge (pc' := 45) (tgt := 98) C d_Ta_readLevel_42 rfl rfl (fun h => ?_) (fun h => ?_)
    · replace hf := g_ip h hf
      refine g_iconst (pc' := 99) (v := 1) C d_Ta_readLevel_98 rfl rfl ?_
      replace hf := g_o2 hf; obtain ⟨h1, hf⟩ := hf; subst h1
      replace hf := g_o2 hf; obtain ⟨h1, hf⟩ := hf; subst h1
      replace hf := g_o2 hf; obtain ⟨h1, hf⟩ := hf; subst h1
      replace hf := Option.some.inj hf; subst hf
      exact g_zret C d_Ta_readLevel_99 () rfl
    · replace hf := g_in h hf
      refine g_aload_n (pc' := 46) C 0 d_Ta_readLevel_45 rfl rfl ?_
      replace hf := g_bi hf; obtain ⟨r1, hc2, hf⟩ := hf
      refine g_callV (pc' := 49) (st1 := [.int r1]) (ws1 := [O_Ta a_p0 a_p0_letters x_p0_length a_p0_code x_p0_codeLength x_p0_at, A_I dA a_p0_letters 120 x_p0_letters, A_I dA a_p0_code 256 x_p0_code]) C (c_Ta_letter (l := l) (D := D) (dA := dA) (a_o := a_p0) (a_o_letters := a_p0_letters) (a_o_code := a_p0_code) (x_o_codeLength := x_p0_codeLength)   hc2) yy_Ta_letter kf_Ta rfl mw_2_145 d_Ta_readLevel_46 rfl [] rfl rfl (Nat.le_of_ble_eq_true rfl) ⟨(by show 0 + 1 ≤ fr + 17; omega), (by show 8 + (1 + 11) + (0) ≤ lo + 366; omega)⟩ rfl rfl (Nat.zero_le _) (Nat.zero_le _) 0 rfl [0, 1] rfl (by decide +kernel) rfl (g_lay_sel _ _ _ _ [(0, true), (1, true), (2, false)] (by decide +kernel) rfl (by decide +kernel) rfl rfl) rfl ?_
      replace hf := g_bi hf; obtain ⟨r3, hc4, hf⟩ := hf
      refine g_callS (pc' := 52) (st1 := [.int r3]) (ws1 := [O_Ta a_p0 a_p0_letters x_p0_length a_p0_code x_p0_codeLength x_p0_at, A_I dA a_p0_letters 120 x_p0_letters, A_I dA a_p0_code 256 x_p0_code]) C (c_Ta_levelOf (l := l) (D := D) (dA := dA)    hc4) yy_Ta_levelOf mw_2_160 d_Ta_readLevel_49 rfl [] rfl rfl (Nat.le_of_ble_eq_true rfl) ⟨(by show 0 + 1 ≤ fr + 17; omega), (by show 8 + (1 + 11) + (0) ≤ lo + 366; omega)⟩ rfl rfl (Nat.zero_le _) (Nat.zero_le _) [] rfl (by decide +kernel) rfl (g_lay_sel _ _ _ _ [(0, false), (1, false), (2, false)] (by decide +kernel) rfl (by decide +kernel) rfl rfl) rfl ?_
      refine g_iload_n (pc' := 53) C 1 d_Ta_readLevel_52 rfl rfl ?_
      refine g_icmp_ne (pc' := 56) (tgt := 98) C d_Ta_readLevel_53 rfl rfl (fun h => ?_) (fun h => ?_)
      · replace hf := g_in h hf
        refine g_iconst (pc' := 99) (v := 1) C d_Ta_readLevel_98 rfl rfl ?_
        replace hf := g_o2 hf; obtain ⟨h1, hf⟩ := hf; subst h1
        replace hf := g_o2 hf; obtain ⟨h1, hf⟩ := hf; subst h1
        replace hf := g_o2 hf; obtain ⟨h1, hf⟩ := hf; subst h1
        replace hf := Option.some.inj hf; subst hf
        exact g_zret C d_Ta_readLevel_99 () rfl
      · replace hf := g_ip h hf
        refine g_aload_n (pc' := 57) C 0 d_Ta_readLevel_56 rfl rfl ?_
        replace hf := g_bi hf; obtain ⟨r5, hc6, hf⟩ := hf
        refine g_callV (pc' := 60) (st1 := [.int r5]) (ws1 := [O_Ta a_p0 a_p0_letters x_p0_length a_p0_code x_p0_codeLength x_p0_at, A_I dA a_p0_letters 120 x_p0_letters, A_I dA a_p0_code 256 x_p0_code]) C (c_Ta_letter (l := l) (D := D) (dA := dA) (a_o := a_p0) (a_o_letters := a_p0_letters) (a_o_code := a_p0_code) (x_o_codeLength := x_p0_codeLength)   hc6) yy_Ta_letter kf_Ta rfl mw_2_145 d_Ta_readLevel_57 rfl [] rfl rfl (Nat.le_of_ble_eq_true rfl) ⟨(by show 0 + 1 ≤ fr + 17; omega), (by show 8 + (1 + 11) + (0) ≤ lo + 366; omega)⟩ rfl rfl (Nat.zero_le _) (Nat.zero_le _) 0 rfl [0, 1] rfl (by decide +kernel) rfl (g_lay_sel _ _ _ _ [(0, true), (1, true), (2, false)] (by decide +kernel) rfl (by decide +kernel) rfl rfl) rfl ?_
        refine g_istore (pc' := 62) (lv' := [(5, .int r5), (0, .ref a_p0), (1, .int v1), (2, .int v2), (3, .int v3), (4, .int v4)]) C d_Ta_readLevel_60 rfl (by decide) rfl ?_
        refine g_aload_n (pc' := 63) C 1 d_Ta_readLevel_62 rfl rfl ?_
        refine g_dup (pc' := 64) C d_Ta_readLevel_63 rfl rfl ?_
        refine g_get (pc' := 67) C kf_Ta 4 mw_1_164 d_Ta_readLevel_64 rfl 0 rfl (by decide) rfl ?_
        refine g_iconst (pc' := 68) (v := 1) C d_Ta_readLevel_67 rfl rfl ?_
        refine g_iadd (pc' := 69) C d_Ta_readLevel_68 rfl ?_
        refine g_put (pc' := 72) (ws' := [O_Ta a_p0 a_p0_letters x_p0_length a_p0_code x_p0_codeLength (x_p0_at + (1 : Int32)), A_I dA a_p0_letters 120 x_p0_letters, A_I dA a_p0_code 256 x_p0_code]) C kf_Ta 4 mw_1_164 d_Ta_readLevel_69 rfl 0 rfl (by decide) rfl rfl rfl (Nat.le_of_ble_eq_true rfl) rfl ?_
        refine g_aload_n (pc' := 73) C 1 d_Ta_readLevel_72 rfl rfl ?_
        refine g_iload_n (pc' := 74) C 2 d_Ta_readLevel_73 rfl rfl ?_
        refine g_iconst (pc' := 75) (v := 1) C d_Ta_readLevel_74 rfl rfl ?_
        refine g_iadd (pc' := 76) C d_Ta_readLevel_75 rfl ?_
        refine g_iload_n (pc' := 77) C 3 d_Ta_readLevel_76 rfl rfl ?_
        replace hf := g_bi hf; obtain ⟨⟨r7, u8, u9, u10⟩, hc11, hf⟩ := hf
        dsimp only at hf
        refine g_callS (pc' := 80) (st1 := [.int (b2i r7)]) (ws1 := [O_Ta a_p0 a_p0_letters x_p0_length a_p0_code u8 u9, A_I dA a_p0_letters 120 x_p0_letters, A_I dA a_p0_code 256 u10]) C (hrec_Ta_readLevel a_p0 a_p0_letters a_p0_code (v1 + (1 : Int32)) v2 x_p0_length x_p0_codeLength (x_p0_at + (1 : Int32)) x_p0_letters x_p0_code _ _ _ _ hc11) yy_Ta_readLevel mw_2_139 d_Ta_readLevel_77 rfl [] rfl rfl (Nat.le_of_ble_eq_true rfl) ⟨(by show fr + 1 ≤ fr + 17; omega), (by show 8 + (6 + 11) + (lo) ≤ lo + 366; omega)⟩ rfl rfl (Nat.zero_le _) (Nat.zero_le _) [0, 1, 2] rfl (by decide +kernel) rfl (g_lay_sel _ _ _ _ [(0, true), (1, true), (2, true)] (by decide +kernel) rfl (by decide +kernel) rfl rfl) rfl ?_
        refine g_if_neb (pc' := 83) (tgt := 85) C d_Ta_readLevel_80 rfl rfl (fun h => ?_) (fun h => ?_)
        · replace hf := g_bt h hf
          refine g_aload_n (pc' := 86) C 1 d_Ta_readLevel_85 rfl rfl ?_
          refine g_iload (pc' := 88) C 0 d_Ta_readLevel_86 rfl rfl ?_
          refine g_ineg (pc' := 89) C d_Ta_readLevel_88 rfl ?_
          replace hf := g_bi hf; obtain ⟨⟨u12, u13⟩, hc14, hf⟩ := hf
          dsimp only at hf
          refine g_callV (pc' := 92) (st1 := []) (ws1 := [O_Ta a_p0 a_p0_letters x_p0_length a_p0_code u12 u9, A_I dA a_p0_letters 120 x_p0_letters, A_I dA a_p0_code 256 u13]) C (c_Ta_write (l := l) (D := D) (dA := dA) (a_o := a_p0) (a_o_letters := a_p0_letters) (a_o_code := a_p0_code) (x_o_length := x_p0_length) (x_o_at := u9)   hc14) yy_Ta_write kf_Ta rfl mw_2_156 d_Ta_readLevel_89 rfl [] rfl rfl (Nat.le_of_ble_eq_true rfl) ⟨(by show 0 + 1 ≤ fr + 17; omega), (by show 8 + (2 + 11) + (0) ≤ lo + 366; omega)⟩ rfl rfl (Nat.zero_le _) (Nat.zero_le _) 0 rfl [0, 2] rfl (by decide +kernel) rfl (g_lay_sel _ _ _ _ [(0, true), (1, false), (1, true)] (by decide +kernel) rfl (by decide +kernel) rfl rfl) rfl ?_
          refine g_iinc (pc' := 95) (j := 5) (v := (v4 + 1)) (lv' := [(4, .int (v4 + 1)), (5, .int r5), (0, .ref a_p0), (1, .int v1), (2, .int v2), (3, .int v3)]) C d_Ta_readLevel_92 rfl rfl rfl (by decide) rfl ?_
          refine g_goto (tgt := 39) C d_Ta_readLevel_95 rfl ?_
          refine g_lv (lv' := [(0, .ref a_p0), (1, .int v1), (2, .int v2), (3, .int v3), (4, .int (v4 + 1))]) [2, 3, 4, 5, 0] rfl ?_
          exact ih v1 v2 v3 (v4 + 1) x_p0_length u12 u9 x_p0_letters u13 hf
        · replace hf := g_bf h hf
          refine g_iconst (pc' := 84) (v := 0) C d_Ta_readLevel_83 rfl rfl ?_
          replace hf := g_o2 hf; obtain ⟨h1, hf⟩ := hf; subst h1
          replace hf := g_o2 hf; obtain ⟨h1, hf⟩ := hf; subst h1
          replace hf := g_o2 hf; obtain ⟨h1, hf⟩ := hf; subst h1
          replace hf := Option.some.inj hf; subst hf
          exact g_zret C d_Ta_readLevel_84 () rfl
def f_Ta_readLevel_L35 (rec_Ta_readLevel : Int32 → Int32 → Int32 → Int32 → Int32 → (Nat → Int32) → (Nat → Int32) → Option (Bool × Int32 × Int32 × (Nat → Int32)))  (v1 : Int32) (v2 : Int32) (s0 : Int32) (x_p0_length : Int32) (x_p0_codeLength : Int32) (x_p0_at : Int32) (x_p0_letters : Nat → Int32) (x_p0_code : Nat → Int32) : Option (Bool × Int32 × Int32 × (Nat → Int32)) :=
  f_Ta_readLevel_L39 rec_Ta_readLevel 3000 v1 v2 s0 (0 : Int32) x_p0_length x_p0_codeLength x_p0_at x_p0_letters x_p0_code
set_option maxRecDepth 20000 in
theorem w_Ta_readLevel_L35 {p : Program} {l : Launch} {e : Env} {s : State} {m : MethodId} {args : Array Value} {below : List Frame} {meth : Method} {c : Code} {D : va_G} {dA : Nat → ClassId} {A : Nat → Prop} (C : GC p s m args meth c prog_9_method_8_code 6 "OneLamp$Tape" (some .boolean) D dA A) {a_p0 a_p0_letters a_p0_code : Nat}  {r0 : Bool} {o_x_p0_codeLength : Int32} {o_x_p0_at : Int32} {o_x_p0_code : Nat → Int32}  {fr lo : Nat} (rec_Ta_readLevel : Int32 → Int32 → Int32 → Int32 → Int32 → (Nat → Int32) → (Nat → Int32) → Option (Bool × Int32 × Int32 × (Nat → Int32))) (hrec_Ta_readLevel : ∀ (a_p0 : Nat) (a_p0_letters : Nat) (a_p0_code : Nat) (p1 : Int32) (p2 : Int32) (x_p0_length : Int32) (x_p0_codeLength : Int32) (x_p0_at : Int32) (x_p0_letters : Nat → Int32) (x_p0_code : Nat → Int32) (r0 : Bool) (o_x_p0_codeLength : Int32) (o_x_p0_at : Int32) (o_x_p0_code : Nat → Int32), rec_Ta_readLevel p1 p2 x_p0_length x_p0_codeLength x_p0_at x_p0_letters x_p0_code = some (r0, o_x_p0_codeLength, o_x_p0_at, o_x_p0_code) → CT l y_Ta_readLevel prog_9_method_8_code 6 (some .boolean) { frames := fr, cells := 0, slots := 0, locals := lo } D dA [.ref a_p0, .int p1, .int p2] [O_Ta a_p0 a_p0_letters x_p0_length a_p0_code x_p0_codeLength x_p0_at, A_I dA a_p0_letters 120 x_p0_letters, A_I dA a_p0_code 256 x_p0_code] (some (.int (b2i r0))) (fun _ : Unit => [O_Ta a_p0 a_p0_letters x_p0_length a_p0_code o_x_p0_codeLength o_x_p0_at, A_I dA a_p0_letters 120 x_p0_letters, A_I dA a_p0_code 256 o_x_p0_code]))  (v1 : Int32) (v2 : Int32) (s0 : Int32) (x_p0_length : Int32) (x_p0_codeLength : Int32) (x_p0_at : Int32) (x_p0_letters : Nat → Int32) (x_p0_code : Nat → Int32) (hf : f_Ta_readLevel_L35 rec_Ta_readLevel  v1 v2 s0 x_p0_length x_p0_codeLength x_p0_at x_p0_letters x_p0_code = some (r0, o_x_p0_codeLength, o_x_p0_at, o_x_p0_code)) : GG p l e { frames := fr + 17, cells := 0, slots := 0, locals := lo + 366 } s m args below meth c 6 D A 0 0 (MQ below (cQ D A (some (.int (b2i r0))) (fun _ : Unit => [O_Ta a_p0 a_p0_letters x_p0_length a_p0_code o_x_p0_codeLength o_x_p0_at, A_I dA a_p0_letters 120 x_p0_letters, A_I dA a_p0_code 256 o_x_p0_code])) args s 0 0 A) 35 [(0, .ref a_p0), (1, .int v1), (2, .int v2)] [.int s0] [O_Ta a_p0 a_p0_letters x_p0_length a_p0_code x_p0_codeLength x_p0_at, A_I dA a_p0_letters 120 x_p0_letters, A_I dA a_p0_code 256 x_p0_code] := by
  unfold f_Ta_readLevel_L35 at hf
  refine g_istore_n (pc' := 36) (lv' := [(3, .int s0), (0, .ref a_p0), (1, .int v1), (2, .int v2)]) C d_Ta_readLevel_35 rfl (by decide) rfl ?_
  refine g_iconst (pc' := 37) (v := 0) C d_Ta_readLevel_36 rfl rfl ?_
  refine g_istore (pc' := 39) (lv' := [(4, .int 0), (3, .int s0), (0, .ref a_p0), (1, .int v1), (2, .int v2)]) C d_Ta_readLevel_37 rfl (by decide) rfl ?_
  refine g_lv (lv' := [(0, .ref a_p0), (1, .int v1), (2, .int v2), (3, .int s0), (4, .int (0 : Int32))]) [2, 3, 4, 1, 0] rfl ?_
  exact w_Ta_readLevel_L39 (a_p0 := a_p0) (a_p0_letters := a_p0_letters) (a_p0_code := a_p0_code) C  rec_Ta_readLevel hrec_Ta_readLevel 3000 v1 v2 s0 (0 : Int32) x_p0_length x_p0_codeLength x_p0_at x_p0_letters x_p0_code hf
def f_Ta_readLevel_body (rec_Ta_readLevel : Int32 → Int32 → Int32 → Int32 → Int32 → (Nat → Int32) → (Nat → Int32) → Option (Bool × Int32 × Int32 × (Nat → Int32))) (p1 : Int32) (p2 : Int32) (x_p0_length : Int32) (x_p0_codeLength : Int32) (x_p0_at : Int32) (x_p0_letters : Nat → Int32) (x_p0_code : Nat → Int32) : Option (Bool × Int32 × Int32 × (Nat → Int32)) :=
  if p1 ≤ (4 : Int32) then
    ((rec_Ta_readLevel  (p1 + (1 : Int32)) p2 x_p0_length x_p0_codeLength x_p0_at x_p0_letters x_p0_code).bind fun (r15, u16, u17, u18) =>
    if r15 = true then
      (if p1 = (2 : Int32) then
        (f_Ta_readLevel_L35 rec_Ta_readLevel p1 p2 (1 : Int32) x_p0_length u16 u17 x_p0_letters u18)
      else
        (f_Ta_readLevel_L35 rec_Ta_readLevel p1 p2 (120 : Int32) x_p0_length u16 u17 x_p0_letters u18))
    else
      (some (false, u16, u17, u18)))
  else
    ((f_Ta_readOperand rec_Ta_readLevel 8 p2 x_p0_length x_p0_codeLength x_p0_at x_p0_letters x_p0_code).bind fun (r20, u21, u22, u23) =>
    some (r20, u21, u22, u23))
set_option maxRecDepth 20000 in
theorem c_Ta_readLevel_body {l : Launch} {D : va_G} {dA : Nat → ClassId} {a_p0 a_p0_letters a_p0_code : Nat}  {p1 : Int32} {p2 : Int32} {x_p0_length : Int32} {x_p0_codeLength : Int32} {x_p0_at : Int32} {x_p0_letters : Nat → Int32} {x_p0_code : Nat → Int32} {r0 : Bool} {o_x_p0_codeLength : Int32} {o_x_p0_at : Int32} {o_x_p0_code : Nat → Int32} {fr lo : Nat} (rec_Ta_readLevel : Int32 → Int32 → Int32 → Int32 → Int32 → (Nat → Int32) → (Nat → Int32) → Option (Bool × Int32 × Int32 × (Nat → Int32))) (hrec_Ta_readLevel : ∀ (a_p0 : Nat) (a_p0_letters : Nat) (a_p0_code : Nat) (p1 : Int32) (p2 : Int32) (x_p0_length : Int32) (x_p0_codeLength : Int32) (x_p0_at : Int32) (x_p0_letters : Nat → Int32) (x_p0_code : Nat → Int32) (r0 : Bool) (o_x_p0_codeLength : Int32) (o_x_p0_at : Int32) (o_x_p0_code : Nat → Int32), rec_Ta_readLevel p1 p2 x_p0_length x_p0_codeLength x_p0_at x_p0_letters x_p0_code = some (r0, o_x_p0_codeLength, o_x_p0_at, o_x_p0_code) → CT l y_Ta_readLevel prog_9_method_8_code 6 (some .boolean) { frames := fr, cells := 0, slots := 0, locals := lo } D dA [.ref a_p0, .int p1, .int p2] [O_Ta a_p0 a_p0_letters x_p0_length a_p0_code x_p0_codeLength x_p0_at, A_I dA a_p0_letters 120 x_p0_letters, A_I dA a_p0_code 256 x_p0_code] (some (.int (b2i r0))) (fun _ : Unit => [O_Ta a_p0 a_p0_letters x_p0_length a_p0_code o_x_p0_codeLength o_x_p0_at, A_I dA a_p0_letters 120 x_p0_letters, A_I dA a_p0_code 256 o_x_p0_code]))  (hf : f_Ta_readLevel_body rec_Ta_readLevel p1 p2 x_p0_length x_p0_codeLength x_p0_at x_p0_letters x_p0_code = some (r0, o_x_p0_codeLength, o_x_p0_at, o_x_p0_code)) : CT l y_Ta_readLevel prog_9_method_8_code 6 (some .boolean) { frames := fr + 17, cells := 0, slots := 0, locals := lo + 366 } D dA [.ref a_p0, .int p1, .int p2] [O_Ta a_p0 a_p0_letters x_p0_length a_p0_code x_p0_codeLength x_p0_at, A_I dA a_p0_letters 120 x_p0_letters, A_I dA a_p0_code 256 x_p0_code] (some (.int (b2i r0))) (fun _ : Unit => [O_Ta a_p0 a_p0_letters x_p0_length a_p0_code o_x_p0_codeLength o_x_p0_at, A_I dA a_p0_letters 120 x_p0_letters, A_I dA a_p0_code 256 o_x_p0_code]) := by
  refine ct_intro "OneLamp$Tape" rfl (by decide +kernel) (Nat.le_of_ble_eq_true rfl) [(0, .ref a_p0), (1, .int p1), (2, .int p2)] rfl (fun _ C => ?_)
  unfold f_Ta_readLevel_body at hf
  refine g_iload_n (pc' := 1) C 1 d_Ta_readLevel_0 rfl rfl ?_
  refine g_iconst (pc' := 2) (v := 4) C d_Ta_readLevel_1 rfl rfl ?_
  refine g_icmp_le (pc' := 5) (tgt := 11) C d_Ta_readLevel_2 rfl rfl (fun h => ?_) (fun h => ?_)
  · replace hf := g_ip h hf
    refine g_aload_n (pc' := 12) C 0 d_Ta_readLevel_11 rfl rfl ?_
    refine g_iload_n (pc' := 13) C 1 d_Ta_readLevel_12 rfl rfl ?_
    refine g_iconst (pc' := 14) (v := 1) C d_Ta_readLevel_13 rfl rfl ?_
    refine g_iadd (pc' := 15) C d_Ta_readLevel_14 rfl ?_
    refine g_iload_n (pc' := 16) C 2 d_Ta_readLevel_15 rfl rfl ?_
    replace hf := g_bi hf; obtain ⟨⟨r15, u16, u17, u18⟩, hc19, hf⟩ := hf
    dsimp only at hf
    refine g_callS (pc' := 19) (st1 := [.int (b2i r15)]) (ws1 := [O_Ta a_p0 a_p0_letters x_p0_length a_p0_code u16 u17, A_I dA a_p0_letters 120 x_p0_letters, A_I dA a_p0_code 256 u18]) C (hrec_Ta_readLevel a_p0 a_p0_letters a_p0_code (p1 + (1 : Int32)) p2 x_p0_length x_p0_codeLength x_p0_at x_p0_letters x_p0_code _ _ _ _ hc19) yy_Ta_readLevel mw_2_139 d_Ta_readLevel_16 rfl [] rfl rfl (Nat.le_of_ble_eq_true rfl) ⟨(by show fr + 1 ≤ fr + 17; omega), (by show 8 + (6 + 11) + (lo) ≤ lo + 366; omega)⟩ rfl rfl (Nat.zero_le _) (Nat.zero_le _) [0, 1, 2] rfl (by decide +kernel) rfl (g_lay_sel _ _ _ _ [(0, true), (1, true), (2, true)] (by decide +kernel) rfl (by decide +kernel) rfl rfl) rfl ?_
    refine g_if_neb (pc' := 22) (tgt := 24) C d_Ta_readLevel_19 rfl rfl (fun h => ?_) (fun h => ?_)
    · replace hf := g_bt h hf
      refine g_iload_n (pc' := 25) C 1 d_Ta_readLevel_24 rfl rfl ?_
      refine g_iconst (pc' := 26) (v := 2) C d_Ta_readLevel_25 rfl rfl ?_
      refine g_icmp_ne (pc' := 29) (tgt := 33) C d_Ta_readLevel_26 rfl rfl (fun h => ?_) (fun h => ?_)
      · replace hf := g_in h hf
        refine g_bipush (pc' := 35) (v := 120) C d_Ta_readLevel_33 rfl rfl ?_
        exact w_Ta_readLevel_L35 (a_p0 := a_p0) (a_p0_letters := a_p0_letters) (a_p0_code := a_p0_code) C  rec_Ta_readLevel hrec_Ta_readLevel p1 p2 (120 : Int32) x_p0_length u16 u17 x_p0_letters u18 hf
      · replace hf := g_ip h hf
        refine g_iconst (pc' := 30) (v := 1) C d_Ta_readLevel_29 rfl rfl ?_
        refine g_goto (tgt := 35) C d_Ta_readLevel_30 rfl ?_
        exact w_Ta_readLevel_L35 (a_p0 := a_p0) (a_p0_letters := a_p0_letters) (a_p0_code := a_p0_code) C  rec_Ta_readLevel hrec_Ta_readLevel p1 p2 (1 : Int32) x_p0_length u16 u17 x_p0_letters u18 hf
    · replace hf := g_bf h hf
      refine g_iconst (pc' := 23) (v := 0) C d_Ta_readLevel_22 rfl rfl ?_
      replace hf := g_o2 hf; obtain ⟨h1, hf⟩ := hf; subst h1
      replace hf := g_o2 hf; obtain ⟨h1, hf⟩ := hf; subst h1
      replace hf := g_o2 hf; obtain ⟨h1, hf⟩ := hf; subst h1
      replace hf := Option.some.inj hf; subst hf
      exact g_zret C d_Ta_readLevel_23 () rfl
  · replace hf := g_in h hf
    refine g_aload_n (pc' := 6) C 0 d_Ta_readLevel_5 rfl rfl ?_
    refine g_iload_n (pc' := 7) C 2 d_Ta_readLevel_6 rfl rfl ?_
    replace hf := g_bi hf; obtain ⟨⟨r20, u21, u22, u23⟩, hc24, hf⟩ := hf
    dsimp only at hf
    refine g_callS (pc' := 10) (st1 := [.int (b2i r20)]) (ws1 := [O_Ta a_p0 a_p0_letters x_p0_length a_p0_code u21 u22, A_I dA a_p0_letters 120 x_p0_letters, A_I dA a_p0_code 256 u23]) C (c_Ta_readOperand (l := l) (D := D) (dA := dA) rec_Ta_readLevel hrec_Ta_readLevel 8 a_p0 a_p0_letters a_p0_code p2 x_p0_length x_p0_codeLength x_p0_at x_p0_letters x_p0_code _ _ _ _ hc24) yy_Ta_readOperand mw_2_142 d_Ta_readLevel_7 rfl [] rfl rfl (Nat.le_of_ble_eq_true rfl) ⟨(by show fr + 2 * 8 + 1 ≤ fr + 17; omega), (by show 8 + (3 + 11) + (lo + 43 * 8) ≤ lo + 366; omega)⟩ rfl rfl (Nat.zero_le _) (Nat.zero_le _) [0, 1, 2] rfl (by decide +kernel) rfl (g_lay_sel _ _ _ _ [(0, true), (1, true), (2, true)] (by decide +kernel) rfl (by decide +kernel) rfl rfl) rfl ?_
    replace hf := g_o2 hf; obtain ⟨h1, hf⟩ := hf; subst h1
    replace hf := g_o2 hf; obtain ⟨h1, hf⟩ := hf; subst h1
    replace hf := g_o2 hf; obtain ⟨h1, hf⟩ := hf; subst h1
    replace hf := Option.some.inj hf; subst hf
    exact g_zret C d_Ta_readLevel_10 () rfl
def f_Ta_readLevel  : Nat → Int32 → Int32 → Int32 → Int32 → Int32 → (Nat → Int32) → (Nat → Int32) → Option (Bool × Int32 × Int32 × (Nat → Int32))
  | 0, _, _, _, _, _, _, _ => none
  | n + 1, p1, p2, x_p0_length, x_p0_codeLength, x_p0_at, x_p0_letters, x_p0_code => f_Ta_readLevel_body (f_Ta_readLevel  n) p1 p2 x_p0_length x_p0_codeLength x_p0_at x_p0_letters x_p0_code
set_option maxRecDepth 20000 in
theorem c_Ta_readLevel {l : Launch} {D : va_G} {dA : Nat → ClassId}  : ∀ (n : Nat), ∀ (a_p0 : Nat) (a_p0_letters : Nat) (a_p0_code : Nat) (p1 : Int32) (p2 : Int32) (x_p0_length : Int32) (x_p0_codeLength : Int32) (x_p0_at : Int32) (x_p0_letters : Nat → Int32) (x_p0_code : Nat → Int32) (r0 : Bool) (o_x_p0_codeLength : Int32) (o_x_p0_at : Int32) (o_x_p0_code : Nat → Int32), f_Ta_readLevel  n p1 p2 x_p0_length x_p0_codeLength x_p0_at x_p0_letters x_p0_code = some (r0, o_x_p0_codeLength, o_x_p0_at, o_x_p0_code) → CT l y_Ta_readLevel prog_9_method_8_code 6 (some .boolean) { frames := 17 * n, cells := 0, slots := 0, locals := 366 * n } D dA [.ref a_p0, .int p1, .int p2] [O_Ta a_p0 a_p0_letters x_p0_length a_p0_code x_p0_codeLength x_p0_at, A_I dA a_p0_letters 120 x_p0_letters, A_I dA a_p0_code 256 x_p0_code] (some (.int (b2i r0))) (fun _ : Unit => [O_Ta a_p0 a_p0_letters x_p0_length a_p0_code o_x_p0_codeLength o_x_p0_at, A_I dA a_p0_letters 120 x_p0_letters, A_I dA a_p0_code 256 o_x_p0_code]) := by
  intro n
  induction n with
  | zero =>
    intro a_p0 a_p0_letters a_p0_code p1 p2 x_p0_length x_p0_codeLength x_p0_at x_p0_letters x_p0_code r0 o_x_p0_codeLength o_x_p0_at o_x_p0_code hf
    cases hf
  | succ n ih =>
    intro a_p0 a_p0_letters a_p0_code p1 p2 x_p0_length x_p0_codeLength x_p0_at x_p0_letters x_p0_code r0 o_x_p0_codeLength o_x_p0_at o_x_p0_code hf
    unfold f_Ta_readLevel at hf
    refine ct_mono (rm := { frames := (17 * n) + 17, cells := 0, slots := 0, locals := (366 * n) + 366 }) (by show (17 * n) + 17 ≤ 17 * (n + 1); omega) (by show (366 * n) + 366 ≤ 366 * (n + 1); omega) rfl rfl ?_
    exact c_Ta_readLevel_body (fr := 17 * n) (lo := 366 * n) (f_Ta_readLevel  n) ih hf
def y_Ta_readLine : MethodName := ⟨"OneLamp$Tape", "readLine", "()Z"⟩
theorem yy_Ta_readLine : YV y_Ta_readLine prog_9_method_4_code 1 (some .boolean) 0 := ⟨mw_2_138, mw_1_7, mw_2_137, tm_s (y := y_Ta_readLine) (n := 5) (by decide +kernel), by decide +kernel, by decide +kernel, by decide +kernel⟩
theorem d_Ta_readLine_0 : decode prog_9_method_4_code 0 = .ok (.aload_n 0, 1) := by decide +kernel
theorem d_Ta_readLine_1 : decode prog_9_method_4_code 1 = .ok (.iconst 0, 1) := by decide +kernel
theorem d_Ta_readLine_2 : decode prog_9_method_4_code 2 = .ok (.iconst 0, 1) := by decide +kernel
theorem d_Ta_readLine_3 : decode prog_9_method_4_code 3 = .ok (.invokestatic 36, 3) := by decide +kernel
theorem d_Ta_readLine_6 : decode prog_9_method_4_code 6 = .ok (.ifCond .ne 5, 3) := by decide +kernel
theorem d_Ta_readLine_9 : decode prog_9_method_4_code 9 = .ok (.iconst 0, 1) := by decide +kernel
theorem d_Ta_readLine_10 : decode prog_9_method_4_code 10 = .ok (.ireturn, 1) := by decide +kernel
theorem d_Ta_readLine_11 : decode prog_9_method_4_code 11 = .ok (.aload_n 0, 1) := by decide +kernel
theorem d_Ta_readLine_12 : decode prog_9_method_4_code 12 = .ok (.invokevirtual 32, 3) := by decide +kernel
theorem d_Ta_readLine_15 : decode prog_9_method_4_code 15 = .ok (.bipush 63, 2) := by decide +kernel
theorem d_Ta_readLine_17 : decode prog_9_method_4_code 17 = .ok (.if_icmp .ne 30, 3) := by decide +kernel
theorem d_Ta_readLine_20 : decode prog_9_method_4_code 20 = .ok (.aload_n 0, 1) := by decide +kernel
theorem d_Ta_readLine_21 : decode prog_9_method_4_code 21 = .ok (.dup, 1) := by decide +kernel
theorem d_Ta_readLine_22 : decode prog_9_method_4_code 22 = .ok (.getfield 22, 3) := by decide +kernel
theorem d_Ta_readLine_25 : decode prog_9_method_4_code 25 = .ok (.iconst 1, 1) := by decide +kernel
theorem d_Ta_readLine_26 : decode prog_9_method_4_code 26 = .ok (.iadd, 1) := by decide +kernel
theorem d_Ta_readLine_27 : decode prog_9_method_4_code 27 = .ok (.putfield 22, 3) := by decide +kernel
theorem d_Ta_readLine_30 : decode prog_9_method_4_code 30 = .ok (.aload_n 0, 1) := by decide +kernel
theorem d_Ta_readLine_31 : decode prog_9_method_4_code 31 = .ok (.bipush (-63), 2) := by decide +kernel
theorem d_Ta_readLine_33 : decode prog_9_method_4_code 33 = .ok (.invokevirtual 42, 3) := by decide +kernel
theorem d_Ta_readLine_36 : decode prog_9_method_4_code 36 = .ok (.aload_n 0, 1) := by decide +kernel
theorem d_Ta_readLine_37 : decode prog_9_method_4_code 37 = .ok (.iconst 0, 1) := by decide +kernel
theorem d_Ta_readLine_38 : decode prog_9_method_4_code 38 = .ok (.iconst 0, 1) := by decide +kernel
theorem d_Ta_readLine_39 : decode prog_9_method_4_code 39 = .ok (.invokestatic 36, 3) := by decide +kernel
theorem d_Ta_readLine_42 : decode prog_9_method_4_code 42 = .ok (.ifCond .ne 5, 3) := by decide +kernel
theorem d_Ta_readLine_45 : decode prog_9_method_4_code 45 = .ok (.iconst 0, 1) := by decide +kernel
theorem d_Ta_readLine_46 : decode prog_9_method_4_code 46 = .ok (.ireturn, 1) := by decide +kernel
theorem d_Ta_readLine_47 : decode prog_9_method_4_code 47 = .ok (.aload_n 0, 1) := by decide +kernel
theorem d_Ta_readLine_48 : decode prog_9_method_4_code 48 = .ok (.bipush (-59), 2) := by decide +kernel
theorem d_Ta_readLine_50 : decode prog_9_method_4_code 50 = .ok (.invokevirtual 42, 3) := by decide +kernel
theorem d_Ta_readLine_53 : decode prog_9_method_4_code 53 = .ok (.iconst 1, 1) := by decide +kernel
theorem d_Ta_readLine_54 : decode prog_9_method_4_code 54 = .ok (.ireturn, 1) := by decide +kernel
def f_Ta_readLine_L47   (x_o_codeLength : Int32) (x_o_at : Int32) (x_o_code : Nat → Int32) : Option (Bool × Int32 × Int32 × (Nat → Int32)) :=
  (f_Ta_write  (-59 : Int32) x_o_codeLength x_o_code).bind fun (u1, u2) =>
  some (true, u1, x_o_at, u2)
set_option maxRecDepth 20000 in
theorem w_Ta_readLine_L47 {p : Program} {l : Launch} {e : Env} {s : State} {m : MethodId} {args : Array Value} {below : List Frame} {meth : Method} {c : Code} {D : va_G} {dA : Nat → ClassId} {A : Nat → Prop} (C : GC p s m args meth c prog_9_method_4_code 1 "OneLamp$Tape" (some .boolean) D dA A) {a_o a_o_letters a_o_code : Nat} {x_o_length : Int32} {x_o_letters : Nat → Int32} {r0 : Bool} {o_x_o_codeLength : Int32} {o_x_o_at : Int32} {o_x_o_code : Nat → Int32}    (x_o_codeLength : Int32) (x_o_at : Int32) (x_o_code : Nat → Int32) (hf : f_Ta_readLine_L47   x_o_codeLength x_o_at x_o_code = some (r0, o_x_o_codeLength, o_x_o_at, o_x_o_code)) : GG p l e { frames := 749, cells := 0, slots := 0, locals := 16129 } s m args below meth c 1 D A 0 0 (MQ below (cQ D A (some (.int (b2i r0))) (fun _ : Unit => [O_Ta a_o a_o_letters x_o_length a_o_code o_x_o_codeLength o_x_o_at, A_I dA a_o_letters 120 x_o_letters, A_I dA a_o_code 256 o_x_o_code])) args s 0 0 A) 47 [(0, .ref a_o)] [] [O_Ta a_o a_o_letters x_o_length a_o_code x_o_codeLength x_o_at, A_I dA a_o_letters 120 x_o_letters, A_I dA a_o_code 256 x_o_code] := by
  unfold f_Ta_readLine_L47 at hf
  refine g_aload_n (pc' := 48) C 0 d_Ta_readLine_47 rfl rfl ?_
  refine g_bipush (pc' := 50) (v := (-59)) C d_Ta_readLine_48 rfl rfl ?_
  replace hf := g_bi hf; obtain ⟨⟨u1, u2⟩, hc3, hf⟩ := hf
  dsimp only at hf
  refine g_callV (pc' := 53) (st1 := []) (ws1 := [O_Ta a_o a_o_letters x_o_length a_o_code u1 x_o_at, A_I dA a_o_letters 120 x_o_letters, A_I dA a_o_code 256 u2]) C (c_Ta_write (l := l) (D := D) (dA := dA) (a_o := a_o) (a_o_letters := a_o_letters) (a_o_code := a_o_code) (x_o_length := x_o_length) (x_o_at := x_o_at)   hc3) yy_Ta_write kf_Ta rfl mw_2_156 d_Ta_readLine_50 rfl [] rfl rfl (Nat.le_of_ble_eq_true rfl) ⟨Nat.le_of_ble_eq_true rfl, Nat.le_of_ble_eq_true rfl⟩ rfl rfl (Nat.zero_le _) (Nat.zero_le _) 0 rfl [0, 2] rfl (by decide +kernel) rfl (g_lay_sel _ _ _ _ [(0, true), (1, false), (1, true)] (by decide +kernel) rfl (by decide +kernel) rfl rfl) rfl ?_
  refine g_iconst (pc' := 54) (v := 1) C d_Ta_readLine_53 rfl rfl ?_
  replace hf := g_o2 hf; obtain ⟨h1, hf⟩ := hf; subst h1
  replace hf := g_o2 hf; obtain ⟨h1, hf⟩ := hf; subst h1
  replace hf := g_o2 hf; obtain ⟨h1, hf⟩ := hf; subst h1
  replace hf := Option.some.inj hf; subst hf
  exact g_zret C d_Ta_readLine_54 () rfl
def f_Ta_readLine  (x_o_length : Int32) (x_o_codeLength : Int32) (x_o_at : Int32) (x_o_letters : Nat → Int32) (x_o_code : Nat → Int32) : Option (Bool × Int32 × Int32 × (Nat → Int32)) :=
  (f_Ta_readLevel  44 (0 : Int32) (0 : Int32) x_o_length x_o_codeLength x_o_at x_o_letters x_o_code).bind fun (r4, u5, u6, u7) =>
  if r4 = true then
    ((f_Ta_letter  x_o_length u6 x_o_letters).bind fun r9 =>
    if r9 = (63 : Int32) then
      ((f_Ta_write  (-63 : Int32) u5 u7).bind fun (u11, u12) =>
      (f_Ta_readLevel  44 (0 : Int32) (0 : Int32) x_o_length u11 (u6 + (1 : Int32)) x_o_letters u12).bind fun (r14, u15, u16, u17) =>
      if r14 = true then
        (f_Ta_readLine_L47  u15 u16 u17)
      else
        (some (false, u15, u16, u17)))
    else
      (f_Ta_readLine_L47  u5 u6 u7))
  else
    (some (false, u5, u6, u7))
set_option maxRecDepth 20000 in
theorem c_Ta_readLine {l : Launch} {D : va_G} {dA : Nat → ClassId} {a_o a_o_letters a_o_code : Nat}  {x_o_length : Int32} {x_o_codeLength : Int32} {x_o_at : Int32} {x_o_letters : Nat → Int32} {x_o_code : Nat → Int32} {r0 : Bool} {o_x_o_codeLength : Int32} {o_x_o_at : Int32} {o_x_o_code : Nat → Int32}   (hf : f_Ta_readLine  x_o_length x_o_codeLength x_o_at x_o_letters x_o_code = some (r0, o_x_o_codeLength, o_x_o_at, o_x_o_code)) : CT l y_Ta_readLine prog_9_method_4_code 1 (some .boolean) { frames := 749, cells := 0, slots := 0, locals := 16129 } D dA [.ref a_o] [O_Ta a_o a_o_letters x_o_length a_o_code x_o_codeLength x_o_at, A_I dA a_o_letters 120 x_o_letters, A_I dA a_o_code 256 x_o_code] (some (.int (b2i r0))) (fun _ : Unit => [O_Ta a_o a_o_letters x_o_length a_o_code o_x_o_codeLength o_x_o_at, A_I dA a_o_letters 120 x_o_letters, A_I dA a_o_code 256 o_x_o_code]) := by
  refine ct_intro "OneLamp$Tape" rfl (by decide +kernel) (Nat.le_of_ble_eq_true rfl) [(0, .ref a_o)] rfl (fun _ C => ?_)
  unfold f_Ta_readLine at hf
  refine g_aload_n (pc' := 1) C 0 d_Ta_readLine_0 rfl rfl ?_
  refine g_iconst (pc' := 2) (v := 0) C d_Ta_readLine_1 rfl rfl ?_
  refine g_iconst (pc' := 3) (v := 0) C d_Ta_readLine_2 rfl rfl ?_
  replace hf := g_bi hf; obtain ⟨⟨r4, u5, u6, u7⟩, hc8, hf⟩ := hf
  dsimp only at hf
  refine g_callS (pc' := 6) (st1 := [.int (b2i r4)]) (ws1 := [O_Ta a_o a_o_letters x_o_length a_o_code u5 u6, A_I dA a_o_letters 120 x_o_letters, A_I dA a_o_code 256 u7]) C (c_Ta_readLevel (l := l) (D := D) (dA := dA)  44 a_o a_o_letters a_o_code (0 : Int32) (0 : Int32) x_o_length x_o_codeLength x_o_at x_o_letters x_o_code _ _ _ _ hc8) yy_Ta_readLevel mw_2_139 d_Ta_readLine_3 rfl [] rfl rfl (Nat.le_of_ble_eq_true rfl) ⟨Nat.le_of_ble_eq_true rfl, Nat.le_of_ble_eq_true rfl⟩ rfl rfl (Nat.zero_le _) (Nat.zero_le _) [0, 1, 2] rfl (by decide +kernel) rfl (g_lay_sel _ _ _ _ [(0, true), (1, true), (2, true)] (by decide +kernel) rfl (by decide +kernel) rfl rfl) rfl ?_
  refine g_if_neb (pc' := 9) (tgt := 11) C d_Ta_readLine_6 rfl rfl (fun h => ?_) (fun h => ?_)
  · replace hf := g_bt h hf
    refine g_aload_n (pc' := 12) C 0 d_Ta_readLine_11 rfl rfl ?_
    replace hf := g_bi hf; obtain ⟨r9, hc10, hf⟩ := hf
    refine g_callV (pc' := 15) (st1 := [.int r9]) (ws1 := [O_Ta a_o a_o_letters x_o_length a_o_code u5 u6, A_I dA a_o_letters 120 x_o_letters, A_I dA a_o_code 256 u7]) C (c_Ta_letter (l := l) (D := D) (dA := dA) (a_o := a_o) (a_o_letters := a_o_letters) (a_o_code := a_o_code) (x_o_codeLength := u5)   hc10) yy_Ta_letter kf_Ta rfl mw_2_145 d_Ta_readLine_12 rfl [] rfl rfl (Nat.le_of_ble_eq_true rfl) ⟨Nat.le_of_ble_eq_true rfl, Nat.le_of_ble_eq_true rfl⟩ rfl rfl (Nat.zero_le _) (Nat.zero_le _) 0 rfl [0, 1] rfl (by decide +kernel) rfl (g_lay_sel _ _ _ _ [(0, true), (1, true), (2, false)] (by decide +kernel) rfl (by decide +kernel) rfl rfl) rfl ?_
    refine g_bipush (pc' := 17) (v := 63) C d_Ta_readLine_15 rfl rfl ?_
    refine g_icmp_ne (pc' := 20) (tgt := 47) C d_Ta_readLine_17 rfl rfl (fun h => ?_) (fun h => ?_)
    · replace hf := g_in h hf
      exact w_Ta_readLine_L47 (a_o := a_o) (a_o_letters := a_o_letters) (a_o_code := a_o_code) C   u5 u6 u7 hf
    · replace hf := g_ip h hf
      refine g_aload_n (pc' := 21) C 0 d_Ta_readLine_20 rfl rfl ?_
      refine g_dup (pc' := 22) C d_Ta_readLine_21 rfl rfl ?_
      refine g_get (pc' := 25) C kf_Ta 4 mw_1_164 d_Ta_readLine_22 rfl 0 rfl (by decide) rfl ?_
      refine g_iconst (pc' := 26) (v := 1) C d_Ta_readLine_25 rfl rfl ?_
      refine g_iadd (pc' := 27) C d_Ta_readLine_26 rfl ?_
      refine g_put (pc' := 30) (ws' := [O_Ta a_o a_o_letters x_o_length a_o_code u5 (u6 + (1 : Int32)), A_I dA a_o_letters 120 x_o_letters, A_I dA a_o_code 256 u7]) C kf_Ta 4 mw_1_164 d_Ta_readLine_27 rfl 0 rfl (by decide) rfl rfl rfl (Nat.le_of_ble_eq_true rfl) rfl ?_
      refine g_aload_n (pc' := 31) C 0 d_Ta_readLine_30 rfl rfl ?_
      refine g_bipush (pc' := 33) (v := (-63)) C d_Ta_readLine_31 rfl rfl ?_
      replace hf := g_bi hf; obtain ⟨⟨u11, u12⟩, hc13, hf⟩ := hf
      dsimp only at hf
      refine g_callV (pc' := 36) (st1 := []) (ws1 := [O_Ta a_o a_o_letters x_o_length a_o_code u11 (u6 + (1 : Int32)), A_I dA a_o_letters 120 x_o_letters, A_I dA a_o_code 256 u12]) C (c_Ta_write (l := l) (D := D) (dA := dA) (a_o := a_o) (a_o_letters := a_o_letters) (a_o_code := a_o_code) (x_o_length := x_o_length) (x_o_at := (u6 + (1 : Int32)))   hc13) yy_Ta_write kf_Ta rfl mw_2_156 d_Ta_readLine_33 rfl [] rfl rfl (Nat.le_of_ble_eq_true rfl) ⟨Nat.le_of_ble_eq_true rfl, Nat.le_of_ble_eq_true rfl⟩ rfl rfl (Nat.zero_le _) (Nat.zero_le _) 0 rfl [0, 2] rfl (by decide +kernel) rfl (g_lay_sel _ _ _ _ [(0, true), (1, false), (1, true)] (by decide +kernel) rfl (by decide +kernel) rfl rfl) rfl ?_
      refine g_aload_n (pc' := 37) C 0 d_Ta_readLine_36 rfl rfl ?_
      refine g_iconst (pc' := 38) (v := 0) C d_Ta_readLine_37 rfl rfl ?_
      refine g_iconst (pc' := 39) (v := 0) C d_Ta_readLine_38 rfl rfl ?_
      replace hf := g_bi hf; obtain ⟨⟨r14, u15, u16, u17⟩, hc18, hf⟩ := hf
      dsimp only at hf
      refine g_callS (pc' := 42) (st1 := [.int (b2i r14)]) (ws1 := [O_Ta a_o a_o_letters x_o_length a_o_code u15 u16, A_I dA a_o_letters 120 x_o_letters, A_I dA a_o_code 256 u17]) C (c_Ta_readLevel (l := l) (D := D) (dA := dA)  44 a_o a_o_letters a_o_code (0 : Int32) (0 : Int32) x_o_length u11 (u6 + (1 : Int32)) x_o_letters u12 _ _ _ _ hc18) yy_Ta_readLevel mw_2_139 d_Ta_readLine_39 rfl [] rfl rfl (Nat.le_of_ble_eq_true rfl) ⟨Nat.le_of_ble_eq_true rfl, Nat.le_of_ble_eq_true rfl⟩ rfl rfl (Nat.zero_le _) (Nat.zero_le _) [0, 1, 2] rfl (by decide +kernel) rfl (g_lay_sel _ _ _ _ [(0, true), (1, true), (2, true)] (by decide +kernel) rfl (by decide +kernel) rfl rfl) rfl ?_
      refine g_if_neb (pc' := 45) (tgt := 47) C d_Ta_readLine_42 rfl rfl (fun h => ?_) (fun h => ?_)
      · replace hf := g_bt h hf
        exact w_Ta_readLine_L47 (a_o := a_o) (a_o_letters := a_o_letters) (a_o_code := a_o_code) C   u15 u16 u17 hf
      · replace hf := g_bf h hf
        refine g_iconst (pc' := 46) (v := 0) C d_Ta_readLine_45 rfl rfl ?_
        replace hf := g_o2 hf; obtain ⟨h1, hf⟩ := hf; subst h1
        replace hf := g_o2 hf; obtain ⟨h1, hf⟩ := hf; subst h1
        replace hf := g_o2 hf; obtain ⟨h1, hf⟩ := hf; subst h1
        replace hf := Option.some.inj hf; subst hf
        exact g_zret C d_Ta_readLine_46 () rfl
  · replace hf := g_bf h hf
    refine g_iconst (pc' := 10) (v := 0) C d_Ta_readLine_9 rfl rfl ?_
    replace hf := g_o2 hf; obtain ⟨h1, hf⟩ := hf; subst h1
    replace hf := g_o2 hf; obtain ⟨h1, hf⟩ := hf; subst h1
    replace hf := g_o2 hf; obtain ⟨h1, hf⟩ := hf; subst h1
    replace hf := Option.some.inj hf; subst hf
    exact g_zret C d_Ta_readLine_10 () rfl
def y_Ta_read : MethodName := ⟨"OneLamp$Tape", "read", "()I"⟩
theorem yy_Ta_read : YV y_Ta_read prog_9_method_3_code 2 (some .int) 0 := ⟨mw_2_134, mw_1_7, mw_2_132, mw_2_133, by decide +kernel, by decide +kernel, by decide +kernel⟩
theorem d_Ta_read_0 : decode prog_9_method_3_code 0 = .ok (.aload_n 0, 1) := by decide +kernel
theorem d_Ta_read_1 : decode prog_9_method_3_code 1 = .ok (.iconst 0, 1) := by decide +kernel
theorem d_Ta_read_2 : decode prog_9_method_3_code 2 = .ok (.putfield 22, 3) := by decide +kernel
theorem d_Ta_read_5 : decode prog_9_method_3_code 5 = .ok (.aload_n 0, 1) := by decide +kernel
theorem d_Ta_read_6 : decode prog_9_method_3_code 6 = .ok (.iconst 0, 1) := by decide +kernel
theorem d_Ta_read_7 : decode prog_9_method_3_code 7 = .ok (.putfield 25, 3) := by decide +kernel
theorem d_Ta_read_10 : decode prog_9_method_3_code 10 = .ok (.iconst 0, 1) := by decide +kernel
theorem d_Ta_read_11 : decode prog_9_method_3_code 11 = .ok (.istore_n 1, 1) := by decide +kernel
theorem d_Ta_read_12 : decode prog_9_method_3_code 12 = .ok (.iload_n 1, 1) := by decide +kernel
theorem d_Ta_read_13 : decode prog_9_method_3_code 13 = .ok (.bipush 120, 2) := by decide +kernel
theorem d_Ta_read_15 : decode prog_9_method_3_code 15 = .ok (.if_icmp .gt 58, 3) := by decide +kernel
theorem d_Ta_read_18 : decode prog_9_method_3_code 18 = .ok (.aload_n 0, 1) := by decide +kernel
theorem d_Ta_read_19 : decode prog_9_method_3_code 19 = .ok (.invokevirtual 28, 3) := by decide +kernel
theorem d_Ta_read_22 : decode prog_9_method_3_code 22 = .ok (.ifCond .ne 8, 3) := by decide +kernel
theorem d_Ta_read_25 : decode prog_9_method_3_code 25 = .ok (.aload_n 0, 1) := by decide +kernel
theorem d_Ta_read_26 : decode prog_9_method_3_code 26 = .ok (.getfield 22, 3) := by decide +kernel
theorem d_Ta_read_29 : decode prog_9_method_3_code 29 = .ok (.ireturn, 1) := by decide +kernel
theorem d_Ta_read_30 : decode prog_9_method_3_code 30 = .ok (.aload_n 0, 1) := by decide +kernel
theorem d_Ta_read_31 : decode prog_9_method_3_code 31 = .ok (.getfield 22, 3) := by decide +kernel
theorem d_Ta_read_34 : decode prog_9_method_3_code 34 = .ok (.aload_n 0, 1) := by decide +kernel
theorem d_Ta_read_35 : decode prog_9_method_3_code 35 = .ok (.getfield 18, 3) := by decide +kernel
theorem d_Ta_read_38 : decode prog_9_method_3_code 38 = .ok (.if_icmp .ne 5, 3) := by decide +kernel
theorem d_Ta_read_41 : decode prog_9_method_3_code 41 = .ok (.iconst (-1), 1) := by decide +kernel
theorem d_Ta_read_42 : decode prog_9_method_3_code 42 = .ok (.ireturn, 1) := by decide +kernel
theorem d_Ta_read_43 : decode prog_9_method_3_code 43 = .ok (.aload_n 0, 1) := by decide +kernel
theorem d_Ta_read_44 : decode prog_9_method_3_code 44 = .ok (.invokevirtual 32, 3) := by decide +kernel
theorem d_Ta_read_47 : decode prog_9_method_3_code 47 = .ok (.bipush 59, 2) := by decide +kernel
theorem d_Ta_read_49 : decode prog_9_method_3_code 49 = .ok (.if_icmp .eq 8, 3) := by decide +kernel
theorem d_Ta_read_52 : decode prog_9_method_3_code 52 = .ok (.aload_n 0, 1) := by decide +kernel
theorem d_Ta_read_53 : decode prog_9_method_3_code 53 = .ok (.getfield 22, 3) := by decide +kernel
theorem d_Ta_read_56 : decode prog_9_method_3_code 56 = .ok (.ireturn, 1) := by decide +kernel
theorem d_Ta_read_57 : decode prog_9_method_3_code 57 = .ok (.aload_n 0, 1) := by decide +kernel
theorem d_Ta_read_58 : decode prog_9_method_3_code 58 = .ok (.dup, 1) := by decide +kernel
theorem d_Ta_read_59 : decode prog_9_method_3_code 59 = .ok (.getfield 22, 3) := by decide +kernel
theorem d_Ta_read_62 : decode prog_9_method_3_code 62 = .ok (.iconst 1, 1) := by decide +kernel
theorem d_Ta_read_63 : decode prog_9_method_3_code 63 = .ok (.iadd, 1) := by decide +kernel
theorem d_Ta_read_64 : decode prog_9_method_3_code 64 = .ok (.putfield 22, 3) := by decide +kernel
theorem d_Ta_read_67 : decode prog_9_method_3_code 67 = .ok (.iinc 1 1, 3) := by decide +kernel
theorem d_Ta_read_70 : decode prog_9_method_3_code 70 = .ok (.goto (-58), 3) := by decide +kernel
theorem d_Ta_read_73 : decode prog_9_method_3_code 73 = .ok (.aload_n 0, 1) := by decide +kernel
theorem d_Ta_read_74 : decode prog_9_method_3_code 74 = .ok (.getfield 22, 3) := by decide +kernel
theorem d_Ta_read_77 : decode prog_9_method_3_code 77 = .ok (.ireturn, 1) := by decide +kernel
def f_Ta_read_L12   : Nat → Int32 → Int32 → Int32 → Int32 → (Nat → Int32) → (Nat → Int32) → Option (Int32 × Int32 × Int32 × (Nat → Int32))
  | 0, _, _, _, _, _, _ => none
  | n + 1, v1, x_o_length, x_o_codeLength, x_o_at, x_o_letters, x_o_code =>
    if (120 : Int32) < v1 then
      (some (x_o_at, x_o_codeLength, x_o_at, x_o_code))
    else
      ((f_Ta_readLine  x_o_length x_o_codeLength x_o_at x_o_letters x_o_code).bind fun (r1, u2, u3, u4) =>
      if r1 = true then
        (if u3 = x_o_length then
          (some ((-1 : Int32), u2, u3, u4))
        else
          ((f_Ta_letter  x_o_length u3 x_o_letters).bind fun r6 =>
          if r6 = (59 : Int32) then
            (f_Ta_read_L12  n (v1 + 1) x_o_length u2 (u3 + (1 : Int32)) x_o_letters u4)
          else
            (some (u3, u2, u3, u4))))
      else
        (some (u3, u2, u3, u4)))
set_option maxRecDepth 20000 in
theorem w_Ta_read_L12 {p : Program} {l : Launch} {e : Env} {s : State} {m : MethodId} {args : Array Value} {below : List Frame} {meth : Method} {c : Code} {D : va_G} {dA : Nat → ClassId} {A : Nat → Prop} (C : GC p s m args meth c prog_9_method_3_code 2 "OneLamp$Tape" (some .int) D dA A) {a_o a_o_letters a_o_code : Nat}  {r0 : Int32} {o_x_o_codeLength : Int32} {o_x_o_at : Int32} {o_x_o_code : Nat → Int32}    : ∀ (n : Nat) (v1 : Int32) (x_o_length : Int32) (x_o_codeLength : Int32) (x_o_at : Int32) (x_o_letters : Nat → Int32) (x_o_code : Nat → Int32), f_Ta_read_L12   n v1 x_o_length x_o_codeLength x_o_at x_o_letters x_o_code = some (r0, o_x_o_codeLength, o_x_o_at, o_x_o_code) → GG p l e { frames := 750, cells := 0, slots := 0, locals := 16149 } s m args below meth c 2 D A 0 0 (MQ below (cQ D A (some (.int r0)) (fun _ : Unit => [O_Ta a_o a_o_letters x_o_length a_o_code o_x_o_codeLength o_x_o_at, A_I dA a_o_letters 120 x_o_letters, A_I dA a_o_code 256 o_x_o_code])) args s 0 0 A) 12 [(0, .ref a_o), (1, .int v1)] [] [O_Ta a_o a_o_letters x_o_length a_o_code x_o_codeLength x_o_at, A_I dA a_o_letters 120 x_o_letters, A_I dA a_o_code 256 x_o_code] := by
  intro n
  induction n with
  | zero =>
    intro v1 x_o_length x_o_codeLength x_o_at x_o_letters x_o_code hf
    cases hf
  | succ n ih =>
    intro v1 x_o_length x_o_codeLength x_o_at x_o_letters x_o_code hf
    unfold f_Ta_read_L12 at hf
    refine g_iload_n (pc' := 13) C 1 d_Ta_read_12 rfl rfl ?_
    refine g_bipush (pc' := 15) (v := 120) C d_Ta_read_13 rfl rfl ?_
    refine g_icmp_gt (pc' := 18) (tgt := 73) C d_Ta_read_15 rfl rfl (fun h => ?_) (fun h => ?_)
    · replace hf := g_ip h hf
      refine g_aload_n (pc' := 74) C 0 d_Ta_read_73 rfl rfl ?_
      refine g_get (pc' := 77) C kf_Ta 4 mw_1_164 d_Ta_read_74 rfl 0 rfl (by decide) rfl ?_
      replace hf := g_o2 hf; obtain ⟨h1, hf⟩ := hf; subst h1
      replace hf := g_o2 hf; obtain ⟨h1, hf⟩ := hf; subst h1
      replace hf := g_o2 hf; obtain ⟨h1, hf⟩ := hf; subst h1
      replace hf := Option.some.inj hf; subst hf
      exact g_iret C d_Ta_read_77 () rfl
    · replace hf := g_in h hf
      refine g_aload_n (pc' := 19) C 0 d_Ta_read_18 rfl rfl ?_
      replace hf := g_bi hf; obtain ⟨⟨r1, u2, u3, u4⟩, hc5, hf⟩ := hf
      dsimp only at hf
      refine g_callV (pc' := 22) (st1 := [.int (b2i r1)]) (ws1 := [O_Ta a_o a_o_letters x_o_length a_o_code u2 u3, A_I dA a_o_letters 120 x_o_letters, A_I dA a_o_code 256 u4]) C (c_Ta_readLine (l := l) (D := D) (dA := dA) (a_o := a_o) (a_o_letters := a_o_letters) (a_o_code := a_o_code)   hc5) yy_Ta_readLine kf_Ta rfl mw_2_135 d_Ta_read_19 rfl [] rfl rfl (Nat.le_of_ble_eq_true rfl) ⟨Nat.le_of_ble_eq_true rfl, Nat.le_of_ble_eq_true rfl⟩ rfl rfl (Nat.zero_le _) (Nat.zero_le _) 0 rfl [0, 1, 2] rfl (by decide +kernel) rfl (g_lay_sel _ _ _ _ [(0, true), (1, true), (2, true)] (by decide +kernel) rfl (by decide +kernel) rfl rfl) rfl ?_
      refine g_if_neb (pc' := 25) (tgt := 30) C d_Ta_read_22 rfl rfl (fun h => ?_) (fun h => ?_)
      · replace hf := g_bt h hf
        refine g_aload_n (pc' := 31) C 0 d_Ta_read_30 rfl rfl ?_
        refine g_get (pc' := 34) C kf_Ta 4 mw_1_164 d_Ta_read_31 rfl 0 rfl (by decide) rfl ?_
        refine g_aload_n (pc' := 35) C 0 d_Ta_read_34 rfl rfl ?_
        refine g_get (pc' := 38) C kf_Ta 1 mw_1_158 d_Ta_read_35 rfl 0 rfl (by decide) rfl ?_
        refine g_icmp_ne (pc' := 41) (tgt := 43) C d_Ta_read_38 rfl rfl (fun h => ?_) (fun h => ?_)
        · replace hf := g_in h hf
          refine g_aload_n (pc' := 44) C 0 d_Ta_read_43 rfl rfl ?_
          replace hf := g_bi hf; obtain ⟨r6, hc7, hf⟩ := hf
          refine g_callV (pc' := 47) (st1 := [.int r6]) (ws1 := [O_Ta a_o a_o_letters x_o_length a_o_code u2 u3, A_I dA a_o_letters 120 x_o_letters, A_I dA a_o_code 256 u4]) C (c_Ta_letter (l := l) (D := D) (dA := dA) (a_o := a_o) (a_o_letters := a_o_letters) (a_o_code := a_o_code) (x_o_codeLength := u2)   hc7) yy_Ta_letter kf_Ta rfl mw_2_145 d_Ta_read_44 rfl [] rfl rfl (Nat.le_of_ble_eq_true rfl) ⟨Nat.le_of_ble_eq_true rfl, Nat.le_of_ble_eq_true rfl⟩ rfl rfl (Nat.zero_le _) (Nat.zero_le _) 0 rfl [0, 1] rfl (by decide +kernel) rfl (g_lay_sel _ _ _ _ [(0, true), (1, true), (2, false)] (by decide +kernel) rfl (by decide +kernel) rfl rfl) rfl ?_
          refine g_bipush (pc' := 49) (v := 59) C d_Ta_read_47 rfl rfl ?_
          refine g_icmp_eq (pc' := 52) (tgt := 57) C d_Ta_read_49 rfl rfl (fun h => ?_) (fun h => ?_)
          · replace hf := g_ip h hf
            refine g_aload_n (pc' := 58) C 0 d_Ta_read_57 rfl rfl ?_
            refine g_dup (pc' := 59) C d_Ta_read_58 rfl rfl ?_
            refine g_get (pc' := 62) C kf_Ta 4 mw_1_164 d_Ta_read_59 rfl 0 rfl (by decide) rfl ?_
            refine g_iconst (pc' := 63) (v := 1) C d_Ta_read_62 rfl rfl ?_
            refine g_iadd (pc' := 64) C d_Ta_read_63 rfl ?_
            refine g_put (pc' := 67) (ws' := [O_Ta a_o a_o_letters x_o_length a_o_code u2 (u3 + (1 : Int32)), A_I dA a_o_letters 120 x_o_letters, A_I dA a_o_code 256 u4]) C kf_Ta 4 mw_1_164 d_Ta_read_64 rfl 0 rfl (by decide) rfl rfl rfl (Nat.le_of_ble_eq_true rfl) rfl ?_
            refine g_iinc (pc' := 70) (j := 1) (v := (v1 + 1)) (lv' := [(1, .int (v1 + 1)), (0, .ref a_o)]) C d_Ta_read_67 rfl rfl rfl (by decide) rfl ?_
            refine g_goto (tgt := 12) C d_Ta_read_70 rfl ?_
            refine g_lv (lv' := [(0, .ref a_o), (1, .int (v1 + 1))]) [1, 0] rfl ?_
            exact ih (v1 + 1) x_o_length u2 (u3 + (1 : Int32)) x_o_letters u4 hf
          · replace hf := g_in h hf
            refine g_aload_n (pc' := 53) C 0 d_Ta_read_52 rfl rfl ?_
            refine g_get (pc' := 56) C kf_Ta 4 mw_1_164 d_Ta_read_53 rfl 0 rfl (by decide) rfl ?_
            replace hf := g_o2 hf; obtain ⟨h1, hf⟩ := hf; subst h1
            replace hf := g_o2 hf; obtain ⟨h1, hf⟩ := hf; subst h1
            replace hf := g_o2 hf; obtain ⟨h1, hf⟩ := hf; subst h1
            replace hf := Option.some.inj hf; subst hf
            exact g_iret C d_Ta_read_56 () rfl
        · replace hf := g_ip h hf
          refine g_iconst (pc' := 42) (v := (-1)) C d_Ta_read_41 rfl rfl ?_
          replace hf := g_o2 hf; obtain ⟨h1, hf⟩ := hf; subst h1
          replace hf := g_o2 hf; obtain ⟨h1, hf⟩ := hf; subst h1
          replace hf := g_o2 hf; obtain ⟨h1, hf⟩ := hf; subst h1
          replace hf := Option.some.inj hf; subst hf
          exact g_iret C d_Ta_read_42 () rfl
      · replace hf := g_bf h hf
        refine g_aload_n (pc' := 26) C 0 d_Ta_read_25 rfl rfl ?_
        refine g_get (pc' := 29) C kf_Ta 4 mw_1_164 d_Ta_read_26 rfl 0 rfl (by decide) rfl ?_
        replace hf := g_o2 hf; obtain ⟨h1, hf⟩ := hf; subst h1
        replace hf := g_o2 hf; obtain ⟨h1, hf⟩ := hf; subst h1
        replace hf := g_o2 hf; obtain ⟨h1, hf⟩ := hf; subst h1
        replace hf := Option.some.inj hf; subst hf
        exact g_iret C d_Ta_read_29 () rfl
def f_Ta_read  (x_o_length : Int32) (x_o_codeLength : Int32) (x_o_at : Int32) (x_o_letters : Nat → Int32) (x_o_code : Nat → Int32) : Option (Int32 × Int32 × Int32 × (Nat → Int32)) :=
  f_Ta_read_L12  3000 (0 : Int32) x_o_length (0 : Int32) (0 : Int32) x_o_letters x_o_code
set_option maxRecDepth 20000 in
theorem c_Ta_read {l : Launch} {D : va_G} {dA : Nat → ClassId} {a_o a_o_letters a_o_code : Nat}  {x_o_length : Int32} {x_o_codeLength : Int32} {x_o_at : Int32} {x_o_letters : Nat → Int32} {x_o_code : Nat → Int32} {r0 : Int32} {o_x_o_codeLength : Int32} {o_x_o_at : Int32} {o_x_o_code : Nat → Int32}   (hf : f_Ta_read  x_o_length x_o_codeLength x_o_at x_o_letters x_o_code = some (r0, o_x_o_codeLength, o_x_o_at, o_x_o_code)) : CT l y_Ta_read prog_9_method_3_code 2 (some .int) { frames := 750, cells := 0, slots := 0, locals := 16149 } D dA [.ref a_o] [O_Ta a_o a_o_letters x_o_length a_o_code x_o_codeLength x_o_at, A_I dA a_o_letters 120 x_o_letters, A_I dA a_o_code 256 x_o_code] (some (.int r0)) (fun _ : Unit => [O_Ta a_o a_o_letters x_o_length a_o_code o_x_o_codeLength o_x_o_at, A_I dA a_o_letters 120 x_o_letters, A_I dA a_o_code 256 o_x_o_code]) := by
  refine ct_intro "OneLamp$Tape" rfl (by decide +kernel) (Nat.le_of_ble_eq_true rfl) [(0, .ref a_o)] rfl (fun _ C => ?_)
  unfold f_Ta_read at hf
  refine g_aload_n (pc' := 1) C 0 d_Ta_read_0 rfl rfl ?_
  refine g_iconst (pc' := 2) (v := 0) C d_Ta_read_1 rfl rfl ?_
  refine g_put (pc' := 5) (ws' := [O_Ta a_o a_o_letters x_o_length a_o_code x_o_codeLength (0 : Int32), A_I dA a_o_letters 120 x_o_letters, A_I dA a_o_code 256 x_o_code]) C kf_Ta 4 mw_1_164 d_Ta_read_2 rfl 0 rfl (by decide) rfl rfl rfl (Nat.le_of_ble_eq_true rfl) rfl ?_
  refine g_aload_n (pc' := 6) C 0 d_Ta_read_5 rfl rfl ?_
  refine g_iconst (pc' := 7) (v := 0) C d_Ta_read_6 rfl rfl ?_
  refine g_put (pc' := 10) (ws' := [O_Ta a_o a_o_letters x_o_length a_o_code (0 : Int32) (0 : Int32), A_I dA a_o_letters 120 x_o_letters, A_I dA a_o_code 256 x_o_code]) C kf_Ta 3 mw_1_162 d_Ta_read_7 rfl 0 rfl (by decide) rfl rfl rfl (Nat.le_of_ble_eq_true rfl) rfl ?_
  refine g_iconst (pc' := 11) (v := 0) C d_Ta_read_10 rfl rfl ?_
  refine g_istore_n (pc' := 12) (lv' := [(1, .int 0), (0, .ref a_o)]) C d_Ta_read_11 rfl (by decide) rfl ?_
  refine g_lv (lv' := [(0, .ref a_o), (1, .int (0 : Int32))]) [1, 0] rfl ?_
  exact w_Ta_read_L12 (a_o := a_o) (a_o_letters := a_o_letters) (a_o_code := a_o_code) C   3000 (0 : Int32) x_o_length (0 : Int32) (0 : Int32) x_o_letters x_o_code hf
