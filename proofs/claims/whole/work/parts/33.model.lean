def y_Mo_twoOf : MethodName := ⟨"OneLampModel", "twoOf", "(III)I"⟩
theorem yy_Mo_twoOf : YS y_Mo_twoOf prog_13_method_39_code 3 (some .int) 3 := ⟨mw_5_238, mw_1_12, mw_5_237, by decide +kernel, by decide +kernel, by decide +kernel⟩
theorem d_Mo_twoOf_0 : decode prog_13_method_39_code 0 = .ok (.iload_n 0, 1) := by decide +kernel
theorem d_Mo_twoOf_1 : decode prog_13_method_39_code 1 = .ok (.tableswitch 217 37 62 #[153, 203, 217, 217, 217, 127, 119, 217, 123, 217, 131, 217, 217, 217, 217, 217, 217, 217, 217, 217, 217, 217, 217, 170, 181, 192], 119) := by decide +kernel
theorem d_Mo_twoOf_120 : decode prog_13_method_39_code 120 = .ok (.iload_n 1, 1) := by decide +kernel
theorem d_Mo_twoOf_121 : decode prog_13_method_39_code 121 = .ok (.iload_n 2, 1) := by decide +kernel
theorem d_Mo_twoOf_122 : decode prog_13_method_39_code 122 = .ok (.iadd, 1) := by decide +kernel
theorem d_Mo_twoOf_123 : decode prog_13_method_39_code 123 = .ok (.ireturn, 1) := by decide +kernel
theorem d_Mo_twoOf_124 : decode prog_13_method_39_code 124 = .ok (.iload_n 1, 1) := by decide +kernel
theorem d_Mo_twoOf_125 : decode prog_13_method_39_code 125 = .ok (.iload_n 2, 1) := by decide +kernel
theorem d_Mo_twoOf_126 : decode prog_13_method_39_code 126 = .ok (.isub, 1) := by decide +kernel
theorem d_Mo_twoOf_127 : decode prog_13_method_39_code 127 = .ok (.ireturn, 1) := by decide +kernel
theorem d_Mo_twoOf_128 : decode prog_13_method_39_code 128 = .ok (.iload_n 1, 1) := by decide +kernel
theorem d_Mo_twoOf_129 : decode prog_13_method_39_code 129 = .ok (.iload_n 2, 1) := by decide +kernel
theorem d_Mo_twoOf_130 : decode prog_13_method_39_code 130 = .ok (.imul, 1) := by decide +kernel
theorem d_Mo_twoOf_131 : decode prog_13_method_39_code 131 = .ok (.ireturn, 1) := by decide +kernel
theorem d_Mo_twoOf_132 : decode prog_13_method_39_code 132 = .ok (.iload_n 2, 1) := by decide +kernel
theorem d_Mo_twoOf_133 : decode prog_13_method_39_code 133 = .ok (.ifCond .ne 7, 3) := by decide +kernel
theorem d_Mo_twoOf_136 : decode prog_13_method_39_code 136 = .ok (.iconst 0, 1) := by decide +kernel
theorem d_Mo_twoOf_137 : decode prog_13_method_39_code 137 = .ok (.goto 16, 3) := by decide +kernel
theorem d_Mo_twoOf_140 : decode prog_13_method_39_code 140 = .ok (.iload_n 2, 1) := by decide +kernel
theorem d_Mo_twoOf_141 : decode prog_13_method_39_code 141 = .ok (.iconst (-1), 1) := by decide +kernel
theorem d_Mo_twoOf_142 : decode prog_13_method_39_code 142 = .ok (.if_icmp .ne 8, 3) := by decide +kernel
theorem d_Mo_twoOf_145 : decode prog_13_method_39_code 145 = .ok (.iload_n 1, 1) := by decide +kernel
theorem d_Mo_twoOf_146 : decode prog_13_method_39_code 146 = .ok (.ineg, 1) := by decide +kernel
theorem d_Mo_twoOf_147 : decode prog_13_method_39_code 147 = .ok (.goto 6, 3) := by decide +kernel
theorem d_Mo_twoOf_150 : decode prog_13_method_39_code 150 = .ok (.iload_n 1, 1) := by decide +kernel
theorem d_Mo_twoOf_151 : decode prog_13_method_39_code 151 = .ok (.iload_n 2, 1) := by decide +kernel
theorem d_Mo_twoOf_152 : decode prog_13_method_39_code 152 = .ok (.idiv, 1) := by decide +kernel
theorem d_Mo_twoOf_153 : decode prog_13_method_39_code 153 = .ok (.ireturn, 1) := by decide +kernel
theorem d_Mo_twoOf_154 : decode prog_13_method_39_code 154 = .ok (.iload_n 2, 1) := by decide +kernel
theorem d_Mo_twoOf_155 : decode prog_13_method_39_code 155 = .ok (.ifCond .eq 8, 3) := by decide +kernel
theorem d_Mo_twoOf_158 : decode prog_13_method_39_code 158 = .ok (.iload_n 2, 1) := by decide +kernel
theorem d_Mo_twoOf_159 : decode prog_13_method_39_code 159 = .ok (.iconst (-1), 1) := by decide +kernel
theorem d_Mo_twoOf_160 : decode prog_13_method_39_code 160 = .ok (.if_icmp .ne 7, 3) := by decide +kernel
theorem d_Mo_twoOf_163 : decode prog_13_method_39_code 163 = .ok (.iconst 0, 1) := by decide +kernel
theorem d_Mo_twoOf_164 : decode prog_13_method_39_code 164 = .ok (.goto 6, 3) := by decide +kernel
theorem d_Mo_twoOf_167 : decode prog_13_method_39_code 167 = .ok (.iload_n 1, 1) := by decide +kernel
theorem d_Mo_twoOf_168 : decode prog_13_method_39_code 168 = .ok (.iload_n 2, 1) := by decide +kernel
theorem d_Mo_twoOf_169 : decode prog_13_method_39_code 169 = .ok (.irem, 1) := by decide +kernel
theorem d_Mo_twoOf_170 : decode prog_13_method_39_code 170 = .ok (.ireturn, 1) := by decide +kernel
theorem d_Mo_twoOf_171 : decode prog_13_method_39_code 171 = .ok (.iload_n 1, 1) := by decide +kernel
theorem d_Mo_twoOf_172 : decode prog_13_method_39_code 172 = .ok (.iload_n 2, 1) := by decide +kernel
theorem d_Mo_twoOf_173 : decode prog_13_method_39_code 173 = .ok (.if_icmp .ge 7, 3) := by decide +kernel
theorem d_Mo_twoOf_176 : decode prog_13_method_39_code 176 = .ok (.iconst 1, 1) := by decide +kernel
theorem d_Mo_twoOf_177 : decode prog_13_method_39_code 177 = .ok (.goto 4, 3) := by decide +kernel
theorem d_Mo_twoOf_180 : decode prog_13_method_39_code 180 = .ok (.iconst 0, 1) := by decide +kernel
theorem d_Mo_twoOf_181 : decode prog_13_method_39_code 181 = .ok (.ireturn, 1) := by decide +kernel
theorem d_Mo_twoOf_182 : decode prog_13_method_39_code 182 = .ok (.iload_n 1, 1) := by decide +kernel
theorem d_Mo_twoOf_183 : decode prog_13_method_39_code 183 = .ok (.iload_n 2, 1) := by decide +kernel
theorem d_Mo_twoOf_184 : decode prog_13_method_39_code 184 = .ok (.if_icmp .ne 7, 3) := by decide +kernel
theorem d_Mo_twoOf_187 : decode prog_13_method_39_code 187 = .ok (.iconst 1, 1) := by decide +kernel
theorem d_Mo_twoOf_188 : decode prog_13_method_39_code 188 = .ok (.goto 4, 3) := by decide +kernel
theorem d_Mo_twoOf_191 : decode prog_13_method_39_code 191 = .ok (.iconst 0, 1) := by decide +kernel
theorem d_Mo_twoOf_192 : decode prog_13_method_39_code 192 = .ok (.ireturn, 1) := by decide +kernel
theorem d_Mo_twoOf_193 : decode prog_13_method_39_code 193 = .ok (.iload_n 1, 1) := by decide +kernel
theorem d_Mo_twoOf_194 : decode prog_13_method_39_code 194 = .ok (.iload_n 2, 1) := by decide +kernel
theorem d_Mo_twoOf_195 : decode prog_13_method_39_code 195 = .ok (.if_icmp .le 7, 3) := by decide +kernel
theorem d_Mo_twoOf_198 : decode prog_13_method_39_code 198 = .ok (.iconst 1, 1) := by decide +kernel
theorem d_Mo_twoOf_199 : decode prog_13_method_39_code 199 = .ok (.goto 4, 3) := by decide +kernel
theorem d_Mo_twoOf_202 : decode prog_13_method_39_code 202 = .ok (.iconst 0, 1) := by decide +kernel
theorem d_Mo_twoOf_203 : decode prog_13_method_39_code 203 = .ok (.ireturn, 1) := by decide +kernel
theorem d_Mo_twoOf_204 : decode prog_13_method_39_code 204 = .ok (.iload_n 1, 1) := by decide +kernel
theorem d_Mo_twoOf_205 : decode prog_13_method_39_code 205 = .ok (.ifCond .eq 11, 3) := by decide +kernel
theorem d_Mo_twoOf_208 : decode prog_13_method_39_code 208 = .ok (.iload_n 2, 1) := by decide +kernel
theorem d_Mo_twoOf_209 : decode prog_13_method_39_code 209 = .ok (.ifCond .eq 7, 3) := by decide +kernel
theorem d_Mo_twoOf_212 : decode prog_13_method_39_code 212 = .ok (.iconst 1, 1) := by decide +kernel
theorem d_Mo_twoOf_213 : decode prog_13_method_39_code 213 = .ok (.goto 4, 3) := by decide +kernel
theorem d_Mo_twoOf_216 : decode prog_13_method_39_code 216 = .ok (.iconst 0, 1) := by decide +kernel
theorem d_Mo_twoOf_217 : decode prog_13_method_39_code 217 = .ok (.ireturn, 1) := by decide +kernel
theorem d_Mo_twoOf_218 : decode prog_13_method_39_code 218 = .ok (.iload_n 1, 1) := by decide +kernel
theorem d_Mo_twoOf_219 : decode prog_13_method_39_code 219 = .ok (.ifCond .ne 7, 3) := by decide +kernel
theorem d_Mo_twoOf_222 : decode prog_13_method_39_code 222 = .ok (.iload_n 2, 1) := by decide +kernel
theorem d_Mo_twoOf_223 : decode prog_13_method_39_code 223 = .ok (.ifCond .eq 7, 3) := by decide +kernel
theorem d_Mo_twoOf_226 : decode prog_13_method_39_code 226 = .ok (.iconst 1, 1) := by decide +kernel
theorem d_Mo_twoOf_227 : decode prog_13_method_39_code 227 = .ok (.goto 4, 3) := by decide +kernel
theorem d_Mo_twoOf_230 : decode prog_13_method_39_code 230 = .ok (.iconst 0, 1) := by decide +kernel
theorem d_Mo_twoOf_231 : decode prog_13_method_39_code 231 = .ok (.ireturn, 1) := by decide +kernel
def f_Mo_twoOf_L218   (v1 : Int32) (v2 : Int32) : Option (Int32) :=
  if v1 = 0 then
    (if v2 = 0 then
      (some ((0 : Int32)))
    else
      (some ((1 : Int32))))
  else
    (some ((1 : Int32)))
set_option maxRecDepth 20000 in
theorem w_Mo_twoOf_L218 {p : Program} {l : Launch} {e : Env} {s : State} {m : MethodId} {args : Array Value} {below : List Frame} {meth : Method} {c : Code} {D : va_G} {dA : Nat → ClassId} {A : Nat → Prop} (C : GC p s m args meth c prog_13_method_39_code 3 "OneLampModel" (some .int) D dA A)   {r0 : Int32}    (v1 : Int32) (v2 : Int32) (hf : f_Mo_twoOf_L218   v1 v2 = some r0) : GG p l e { frames := 0, cells := 0, slots := 0, locals := 0 } s m args below meth c 3 D A 0 0 (MQ below (cQ D A (some (.int r0)) (fun _ : Unit => [])) args s 0 0 A) 218 [(1, .int v1), (2, .int v2)] [] [] := by
  unfold f_Mo_twoOf_L218 at hf
  refine g_iload_n (pc' := 219) C 0 d_Mo_twoOf_218 rfl rfl ?_
  refine g_if_ne (pc' := 222) (tgt := 226) C d_Mo_twoOf_219 rfl rfl (fun h => ?_) (fun h => ?_)
  · replace hf := g_in h hf
    refine g_iconst (pc' := 227) (v := 1) C d_Mo_twoOf_226 rfl rfl ?_
    refine g_goto (tgt := 231) C d_Mo_twoOf_227 rfl ?_
    replace hf := Option.some.inj hf; subst hf
    exact g_iret C d_Mo_twoOf_231 () rfl
  · replace hf := g_ip h hf
    refine g_iload_n (pc' := 223) C 1 d_Mo_twoOf_222 rfl rfl ?_
    refine g_if_eq (pc' := 226) (tgt := 230) C d_Mo_twoOf_223 rfl rfl (fun h => ?_) (fun h => ?_)
    · replace hf := g_ip h hf
      refine g_iconst (pc' := 231) (v := 0) C d_Mo_twoOf_230 rfl rfl ?_
      replace hf := Option.some.inj hf; subst hf
      exact g_iret C d_Mo_twoOf_231 () rfl
    · replace hf := g_in h hf
      refine g_iconst (pc' := 227) (v := 1) C d_Mo_twoOf_226 rfl rfl ?_
      refine g_goto (tgt := 231) C d_Mo_twoOf_227 rfl ?_
      replace hf := Option.some.inj hf; subst hf
      exact g_iret C d_Mo_twoOf_231 () rfl
def f_Mo_twoOf  (p0 : Int32) (p1 : Int32) (p2 : Int32) : Option (Int32) :=
  if p0 = 37 then
    (if p2 = 0 then
      (some ((0 : Int32)))
    else
      (if p2 = (-1 : Int32) then
        (some ((0 : Int32)))
      else
        (if p2 = 0 then none else
        some ((p1 - p1 / p2 * p2)))))
  else
  (if p0 = 38 then
    (if p1 = 0 then
      (some ((0 : Int32)))
    else
      (if p2 = 0 then
        (some ((0 : Int32)))
      else
        (some ((1 : Int32)))))
  else
  (if p0 = 42 then
    (some ((p1 * p2)))
  else
  (if p0 = 43 then
    (some ((p1 + p2)))
  else
  (if p0 = 45 then
    (some ((p1 - p2)))
  else
  (if p0 = 47 then
    (if p2 = 0 then
      (some ((0 : Int32)))
    else
      (if p2 = (-1 : Int32) then
        (some ((-p1)))
      else
        (if p2 = 0 then none else
        some ((p1 / p2)))))
  else
  (if p0 = 60 then
    (if p2 ≤ p1 then
      (some ((0 : Int32)))
    else
      (some ((1 : Int32))))
  else
  (if p0 = 61 then
    (if p1 = p2 then
      (some ((1 : Int32)))
    else
      (some ((0 : Int32))))
  else
  (if p0 = 62 then
    (if p1 ≤ p2 then
      (some ((0 : Int32)))
    else
      (some ((1 : Int32))))
  else
  (f_Mo_twoOf_L218  p1 p2)))))))))
set_option maxRecDepth 20000 in
theorem c_Mo_twoOf {l : Launch} {D : va_G} {dA : Nat → ClassId}   {p0 : Int32} {p1 : Int32} {p2 : Int32} {r0 : Int32}   (hf : f_Mo_twoOf  p0 p1 p2 = some r0) : CT l y_Mo_twoOf prog_13_method_39_code 3 (some .int) { frames := 0, cells := 0, slots := 0, locals := 0 } D dA [.int p0, .int p1, .int p2] [] (some (.int r0)) (fun _ : Unit => []) := by
  refine ct_intro "OneLampModel" rfl (by decide +kernel) (Nat.le_of_ble_eq_true rfl) [(0, .int p0), (1, .int p1), (2, .int p2)] rfl (fun _ C => ?_)
  unfold f_Mo_twoOf at hf
  refine g_iload_n (pc' := 1) C 0 d_Mo_twoOf_0 rfl rfl ?_
  by_cases q0 : p0 = 37
  · replace hf := g_ip q0 hf
    have e : (p0 : Int32).toInt = 37 := by rw [q0]; rfl
    refine g_tableIn (off := 153) (tgt := 154) C d_Mo_twoOf_1 (by rw [e]; decide) (by rw [e]; decide) (by rw [e]; rfl) rfl ?_
    refine g_iload_n (pc' := 155) C 2 d_Mo_twoOf_154 rfl rfl ?_
    refine g_if_eq (pc' := 158) (tgt := 163) C d_Mo_twoOf_155 rfl rfl (fun h => ?_) (fun h => ?_)
    · replace hf := g_ip h hf
      refine g_iconst (pc' := 164) (v := 0) C d_Mo_twoOf_163 rfl rfl ?_
      refine g_goto (tgt := 170) C d_Mo_twoOf_164 rfl ?_
      replace hf := Option.some.inj hf; subst hf
      exact g_iret C d_Mo_twoOf_170 () rfl
    · replace hf := g_in h hf
      refine g_iload_n (pc' := 159) C 2 d_Mo_twoOf_158 rfl rfl ?_
      refine g_iconst (pc' := 160) (v := (-1)) C d_Mo_twoOf_159 rfl rfl ?_
      refine g_icmp_ne (pc' := 163) (tgt := 167) C d_Mo_twoOf_160 rfl rfl (fun h => ?_) (fun h => ?_)
      · replace hf := g_in h hf
        refine g_iload_n (pc' := 168) C 1 d_Mo_twoOf_167 rfl rfl ?_
        refine g_iload_n (pc' := 169) C 2 d_Mo_twoOf_168 rfl rfl ?_
        have hb := g_ck hf
        replace hf := g_in hb hf
        refine g_irem (pc' := 170) C d_Mo_twoOf_169 rfl hb ?_
        replace hf := Option.some.inj hf; subst hf
        exact g_iret C d_Mo_twoOf_170 () rfl
      · replace hf := g_ip h hf
        refine g_iconst (pc' := 164) (v := 0) C d_Mo_twoOf_163 rfl rfl ?_
        refine g_goto (tgt := 170) C d_Mo_twoOf_164 rfl ?_
        replace hf := Option.some.inj hf; subst hf
        exact g_iret C d_Mo_twoOf_170 () rfl
  replace hf := g_in q0 hf
  by_cases q1 : p0 = 38
  · replace hf := g_ip q1 hf
    have e : (p0 : Int32).toInt = 38 := by rw [q1]; rfl
    refine g_tableIn (off := 203) (tgt := 204) C d_Mo_twoOf_1 (by rw [e]; decide) (by rw [e]; decide) (by rw [e]; rfl) rfl ?_
    refine g_iload_n (pc' := 205) C 1 d_Mo_twoOf_204 rfl rfl ?_
    refine g_if_eq (pc' := 208) (tgt := 216) C d_Mo_twoOf_205 rfl rfl (fun h => ?_) (fun h => ?_)
    · replace hf := g_ip h hf
      refine g_iconst (pc' := 217) (v := 0) C d_Mo_twoOf_216 rfl rfl ?_
      replace hf := Option.some.inj hf; subst hf
      exact g_iret C d_Mo_twoOf_217 () rfl
    · replace hf := g_in h hf
      refine g_iload_n (pc' := 209) C 2 d_Mo_twoOf_208 rfl rfl ?_
      refine g_if_eq (pc' := 212) (tgt := 216) C d_Mo_twoOf_209 rfl rfl (fun h => ?_) (fun h => ?_)
      · replace hf := g_ip h hf
        refine g_iconst (pc' := 217) (v := 0) C d_Mo_twoOf_216 rfl rfl ?_
        replace hf := Option.some.inj hf; subst hf
        exact g_iret C d_Mo_twoOf_217 () rfl
      · replace hf := g_in h hf
        refine g_iconst (pc' := 213) (v := 1) C d_Mo_twoOf_212 rfl rfl ?_
        refine g_goto (tgt := 217) C d_Mo_twoOf_213 rfl ?_
        replace hf := Option.some.inj hf; subst hf
        exact g_iret C d_Mo_twoOf_217 () rfl
  replace hf := g_in q1 hf
  by_cases q2 : p0 = 42
  · replace hf := g_ip q2 hf
    have e : (p0 : Int32).toInt = 42 := by rw [q2]; rfl
    refine g_tableIn (off := 127) (tgt := 128) C d_Mo_twoOf_1 (by rw [e]; decide) (by rw [e]; decide) (by rw [e]; rfl) rfl ?_
    refine g_iload_n (pc' := 129) C 1 d_Mo_twoOf_128 rfl rfl ?_
    refine g_iload_n (pc' := 130) C 2 d_Mo_twoOf_129 rfl rfl ?_
    refine g_imul (pc' := 131) C d_Mo_twoOf_130 rfl ?_
    replace hf := Option.some.inj hf; subst hf
    exact g_iret C d_Mo_twoOf_131 () rfl
  replace hf := g_in q2 hf
  by_cases q3 : p0 = 43
  · replace hf := g_ip q3 hf
    have e : (p0 : Int32).toInt = 43 := by rw [q3]; rfl
    refine g_tableIn (off := 119) (tgt := 120) C d_Mo_twoOf_1 (by rw [e]; decide) (by rw [e]; decide) (by rw [e]; rfl) rfl ?_
    refine g_iload_n (pc' := 121) C 1 d_Mo_twoOf_120 rfl rfl ?_
    refine g_iload_n (pc' := 122) C 2 d_Mo_twoOf_121 rfl rfl ?_
    refine g_iadd (pc' := 123) C d_Mo_twoOf_122 rfl ?_
    replace hf := Option.some.inj hf; subst hf
    exact g_iret C d_Mo_twoOf_123 () rfl
  replace hf := g_in q3 hf
  by_cases q4 : p0 = 45
  · replace hf := g_ip q4 hf
    have e : (p0 : Int32).toInt = 45 := by rw [q4]; rfl
    refine g_tableIn (off := 123) (tgt := 124) C d_Mo_twoOf_1 (by rw [e]; decide) (by rw [e]; decide) (by rw [e]; rfl) rfl ?_
    refine g_iload_n (pc' := 125) C 1 d_Mo_twoOf_124 rfl rfl ?_
    refine g_iload_n (pc' := 126) C 2 d_Mo_twoOf_125 rfl rfl ?_
    refine g_isub (pc' := 127) C d_Mo_twoOf_126 rfl ?_
    replace hf := Option.some.inj hf; subst hf
    exact g_iret C d_Mo_twoOf_127 () rfl
  replace hf := g_in q4 hf
  by_cases q5 : p0 = 47
  · replace hf := g_ip q5 hf
    have e : (p0 : Int32).toInt = 47 := by rw [q5]; rfl
    refine g_tableIn (off := 131) (tgt := 132) C d_Mo_twoOf_1 (by rw [e]; decide) (by rw [e]; decide) (by rw [e]; rfl) rfl ?_
    refine g_iload_n (pc' := 133) C 2 d_Mo_twoOf_132 rfl rfl ?_
    refine g_if_ne (pc' := 136) (tgt := 140) C d_Mo_twoOf_133 rfl rfl (fun h => ?_) (fun h => ?_)
    · replace hf := g_in h hf
      refine g_iload_n (pc' := 141) C 2 d_Mo_twoOf_140 rfl rfl ?_
      refine g_iconst (pc' := 142) (v := (-1)) C d_Mo_twoOf_141 rfl rfl ?_
      refine g_icmp_ne (pc' := 145) (tgt := 150) C d_Mo_twoOf_142 rfl rfl (fun h => ?_) (fun h => ?_)
      · replace hf := g_in h hf
        refine g_iload_n (pc' := 151) C 1 d_Mo_twoOf_150 rfl rfl ?_
        refine g_iload_n (pc' := 152) C 2 d_Mo_twoOf_151 rfl rfl ?_
        have hb := g_ck hf
        replace hf := g_in hb hf
        refine g_idiv (pc' := 153) C d_Mo_twoOf_152 rfl hb ?_
        replace hf := Option.some.inj hf; subst hf
        exact g_iret C d_Mo_twoOf_153 () rfl
      · replace hf := g_ip h hf
        refine g_iload_n (pc' := 146) C 1 d_Mo_twoOf_145 rfl rfl ?_
        refine g_ineg (pc' := 147) C d_Mo_twoOf_146 rfl ?_
        refine g_goto (tgt := 153) C d_Mo_twoOf_147 rfl ?_
        replace hf := Option.some.inj hf; subst hf
        exact g_iret C d_Mo_twoOf_153 () rfl
    · replace hf := g_ip h hf
      refine g_iconst (pc' := 137) (v := 0) C d_Mo_twoOf_136 rfl rfl ?_
      refine g_goto (tgt := 153) C d_Mo_twoOf_137 rfl ?_
      replace hf := Option.some.inj hf; subst hf
      exact g_iret C d_Mo_twoOf_153 () rfl
  replace hf := g_in q5 hf
  by_cases q6 : p0 = 60
  · replace hf := g_ip q6 hf
    have e : (p0 : Int32).toInt = 60 := by rw [q6]; rfl
    refine g_tableIn (off := 170) (tgt := 171) C d_Mo_twoOf_1 (by rw [e]; decide) (by rw [e]; decide) (by rw [e]; rfl) rfl ?_
    refine g_iload_n (pc' := 172) C 1 d_Mo_twoOf_171 rfl rfl ?_
    refine g_iload_n (pc' := 173) C 2 d_Mo_twoOf_172 rfl rfl ?_
    refine g_icmp_ge (pc' := 176) (tgt := 180) C d_Mo_twoOf_173 rfl rfl (fun h => ?_) (fun h => ?_)
    · replace hf := g_ip h hf
      refine g_iconst (pc' := 181) (v := 0) C d_Mo_twoOf_180 rfl rfl ?_
      replace hf := Option.some.inj hf; subst hf
      exact g_iret C d_Mo_twoOf_181 () rfl
    · replace hf := g_in h hf
      refine g_iconst (pc' := 177) (v := 1) C d_Mo_twoOf_176 rfl rfl ?_
      refine g_goto (tgt := 181) C d_Mo_twoOf_177 rfl ?_
      replace hf := Option.some.inj hf; subst hf
      exact g_iret C d_Mo_twoOf_181 () rfl
  replace hf := g_in q6 hf
  by_cases q7 : p0 = 61
  · replace hf := g_ip q7 hf
    have e : (p0 : Int32).toInt = 61 := by rw [q7]; rfl
    refine g_tableIn (off := 181) (tgt := 182) C d_Mo_twoOf_1 (by rw [e]; decide) (by rw [e]; decide) (by rw [e]; rfl) rfl ?_
    refine g_iload_n (pc' := 183) C 1 d_Mo_twoOf_182 rfl rfl ?_
    refine g_iload_n (pc' := 184) C 2 d_Mo_twoOf_183 rfl rfl ?_
    refine g_icmp_ne (pc' := 187) (tgt := 191) C d_Mo_twoOf_184 rfl rfl (fun h => ?_) (fun h => ?_)
    · replace hf := g_in h hf
      refine g_iconst (pc' := 192) (v := 0) C d_Mo_twoOf_191 rfl rfl ?_
      replace hf := Option.some.inj hf; subst hf
      exact g_iret C d_Mo_twoOf_192 () rfl
    · replace hf := g_ip h hf
      refine g_iconst (pc' := 188) (v := 1) C d_Mo_twoOf_187 rfl rfl ?_
      refine g_goto (tgt := 192) C d_Mo_twoOf_188 rfl ?_
      replace hf := Option.some.inj hf; subst hf
      exact g_iret C d_Mo_twoOf_192 () rfl
  replace hf := g_in q7 hf
  by_cases q8 : p0 = 62
  · replace hf := g_ip q8 hf
    have e : (p0 : Int32).toInt = 62 := by rw [q8]; rfl
    refine g_tableIn (off := 192) (tgt := 193) C d_Mo_twoOf_1 (by rw [e]; decide) (by rw [e]; decide) (by rw [e]; rfl) rfl ?_
    refine g_iload_n (pc' := 194) C 1 d_Mo_twoOf_193 rfl rfl ?_
    refine g_iload_n (pc' := 195) C 2 d_Mo_twoOf_194 rfl rfl ?_
    refine g_icmp_le (pc' := 198) (tgt := 202) C d_Mo_twoOf_195 rfl rfl (fun h => ?_) (fun h => ?_)
    · replace hf := g_ip h hf
      refine g_iconst (pc' := 203) (v := 0) C d_Mo_twoOf_202 rfl rfl ?_
      replace hf := Option.some.inj hf; subst hf
      exact g_iret C d_Mo_twoOf_203 () rfl
    · replace hf := g_in h hf
      refine g_iconst (pc' := 199) (v := 1) C d_Mo_twoOf_198 rfl rfl ?_
      refine g_goto (tgt := 203) C d_Mo_twoOf_199 rfl ?_
      replace hf := Option.some.inj hf; subst hf
      exact g_iret C d_Mo_twoOf_203 () rfl
  replace hf := g_in q8 hf
  by_cases m39 : p0 = 39
  · have e : (p0 : Int32).toInt = 39 := by rw [m39]; rfl
    refine g_tableIn (off := 217) (tgt := 218) C d_Mo_twoOf_1 (by rw [e]; decide) (by rw [e]; decide) (by rw [e]; rfl) rfl ?_
    refine g_lv (lv' := [(1, .int p1), (2, .int p2)]) [1, 2] rfl ?_
    exact w_Mo_twoOf_L218  C   p1 p2 hf
  by_cases m40 : p0 = 40
  · have e : (p0 : Int32).toInt = 40 := by rw [m40]; rfl
    refine g_tableIn (off := 217) (tgt := 218) C d_Mo_twoOf_1 (by rw [e]; decide) (by rw [e]; decide) (by rw [e]; rfl) rfl ?_
    refine g_lv (lv' := [(1, .int p1), (2, .int p2)]) [1, 2] rfl ?_
    exact w_Mo_twoOf_L218  C   p1 p2 hf
  by_cases m41 : p0 = 41
  · have e : (p0 : Int32).toInt = 41 := by rw [m41]; rfl
    refine g_tableIn (off := 217) (tgt := 218) C d_Mo_twoOf_1 (by rw [e]; decide) (by rw [e]; decide) (by rw [e]; rfl) rfl ?_
    refine g_lv (lv' := [(1, .int p1), (2, .int p2)]) [1, 2] rfl ?_
    exact w_Mo_twoOf_L218  C   p1 p2 hf
  by_cases m44 : p0 = 44
  · have e : (p0 : Int32).toInt = 44 := by rw [m44]; rfl
    refine g_tableIn (off := 217) (tgt := 218) C d_Mo_twoOf_1 (by rw [e]; decide) (by rw [e]; decide) (by rw [e]; rfl) rfl ?_
    refine g_lv (lv' := [(1, .int p1), (2, .int p2)]) [1, 2] rfl ?_
    exact w_Mo_twoOf_L218  C   p1 p2 hf
  by_cases m46 : p0 = 46
  · have e : (p0 : Int32).toInt = 46 := by rw [m46]; rfl
    refine g_tableIn (off := 217) (tgt := 218) C d_Mo_twoOf_1 (by rw [e]; decide) (by rw [e]; decide) (by rw [e]; rfl) rfl ?_
    refine g_lv (lv' := [(1, .int p1), (2, .int p2)]) [1, 2] rfl ?_
    exact w_Mo_twoOf_L218  C   p1 p2 hf
  by_cases m48 : p0 = 48
  · have e : (p0 : Int32).toInt = 48 := by rw [m48]; rfl
    refine g_tableIn (off := 217) (tgt := 218) C d_Mo_twoOf_1 (by rw [e]; decide) (by rw [e]; decide) (by rw [e]; rfl) rfl ?_
    refine g_lv (lv' := [(1, .int p1), (2, .int p2)]) [1, 2] rfl ?_
    exact w_Mo_twoOf_L218  C   p1 p2 hf
  by_cases m49 : p0 = 49
  · have e : (p0 : Int32).toInt = 49 := by rw [m49]; rfl
    refine g_tableIn (off := 217) (tgt := 218) C d_Mo_twoOf_1 (by rw [e]; decide) (by rw [e]; decide) (by rw [e]; rfl) rfl ?_
    refine g_lv (lv' := [(1, .int p1), (2, .int p2)]) [1, 2] rfl ?_
    exact w_Mo_twoOf_L218  C   p1 p2 hf
  by_cases m50 : p0 = 50
  · have e : (p0 : Int32).toInt = 50 := by rw [m50]; rfl
    refine g_tableIn (off := 217) (tgt := 218) C d_Mo_twoOf_1 (by rw [e]; decide) (by rw [e]; decide) (by rw [e]; rfl) rfl ?_
    refine g_lv (lv' := [(1, .int p1), (2, .int p2)]) [1, 2] rfl ?_
    exact w_Mo_twoOf_L218  C   p1 p2 hf
  by_cases m51 : p0 = 51
  · have e : (p0 : Int32).toInt = 51 := by rw [m51]; rfl
    refine g_tableIn (off := 217) (tgt := 218) C d_Mo_twoOf_1 (by rw [e]; decide) (by rw [e]; decide) (by rw [e]; rfl) rfl ?_
    refine g_lv (lv' := [(1, .int p1), (2, .int p2)]) [1, 2] rfl ?_
    exact w_Mo_twoOf_L218  C   p1 p2 hf
  by_cases m52 : p0 = 52
  · have e : (p0 : Int32).toInt = 52 := by rw [m52]; rfl
    refine g_tableIn (off := 217) (tgt := 218) C d_Mo_twoOf_1 (by rw [e]; decide) (by rw [e]; decide) (by rw [e]; rfl) rfl ?_
    refine g_lv (lv' := [(1, .int p1), (2, .int p2)]) [1, 2] rfl ?_
    exact w_Mo_twoOf_L218  C   p1 p2 hf
  by_cases m53 : p0 = 53
  · have e : (p0 : Int32).toInt = 53 := by rw [m53]; rfl
    refine g_tableIn (off := 217) (tgt := 218) C d_Mo_twoOf_1 (by rw [e]; decide) (by rw [e]; decide) (by rw [e]; rfl) rfl ?_
    refine g_lv (lv' := [(1, .int p1), (2, .int p2)]) [1, 2] rfl ?_
    exact w_Mo_twoOf_L218  C   p1 p2 hf
  by_cases m54 : p0 = 54
  · have e : (p0 : Int32).toInt = 54 := by rw [m54]; rfl
    refine g_tableIn (off := 217) (tgt := 218) C d_Mo_twoOf_1 (by rw [e]; decide) (by rw [e]; decide) (by rw [e]; rfl) rfl ?_
    refine g_lv (lv' := [(1, .int p1), (2, .int p2)]) [1, 2] rfl ?_
    exact w_Mo_twoOf_L218  C   p1 p2 hf
  by_cases m55 : p0 = 55
  · have e : (p0 : Int32).toInt = 55 := by rw [m55]; rfl
    refine g_tableIn (off := 217) (tgt := 218) C d_Mo_twoOf_1 (by rw [e]; decide) (by rw [e]; decide) (by rw [e]; rfl) rfl ?_
    refine g_lv (lv' := [(1, .int p1), (2, .int p2)]) [1, 2] rfl ?_
    exact w_Mo_twoOf_L218  C   p1 p2 hf
  by_cases m56 : p0 = 56
  · have e : (p0 : Int32).toInt = 56 := by rw [m56]; rfl
    refine g_tableIn (off := 217) (tgt := 218) C d_Mo_twoOf_1 (by rw [e]; decide) (by rw [e]; decide) (by rw [e]; rfl) rfl ?_
    refine g_lv (lv' := [(1, .int p1), (2, .int p2)]) [1, 2] rfl ?_
    exact w_Mo_twoOf_L218  C   p1 p2 hf
  by_cases m57 : p0 = 57
  · have e : (p0 : Int32).toInt = 57 := by rw [m57]; rfl
    refine g_tableIn (off := 217) (tgt := 218) C d_Mo_twoOf_1 (by rw [e]; decide) (by rw [e]; decide) (by rw [e]; rfl) rfl ?_
    refine g_lv (lv' := [(1, .int p1), (2, .int p2)]) [1, 2] rfl ?_
    exact w_Mo_twoOf_L218  C   p1 p2 hf
  by_cases m58 : p0 = 58
  · have e : (p0 : Int32).toInt = 58 := by rw [m58]; rfl
    refine g_tableIn (off := 217) (tgt := 218) C d_Mo_twoOf_1 (by rw [e]; decide) (by rw [e]; decide) (by rw [e]; rfl) rfl ?_
    refine g_lv (lv' := [(1, .int p1), (2, .int p2)]) [1, 2] rfl ?_
    exact w_Mo_twoOf_L218  C   p1 p2 hf
  by_cases m59 : p0 = 59
  · have e : (p0 : Int32).toInt = 59 := by rw [m59]; rfl
    refine g_tableIn (off := 217) (tgt := 218) C d_Mo_twoOf_1 (by rw [e]; decide) (by rw [e]; decide) (by rw [e]; rfl) rfl ?_
    refine g_lv (lv' := [(1, .int p1), (2, .int p2)]) [1, 2] rfl ?_
    exact w_Mo_twoOf_L218  C   p1 p2 hf
  refine g_tableOut (tgt := 218) C d_Mo_twoOf_1 (by have e37 := lv_neT q0 (show (37 : Int32).toInt = 37 from rfl); have e38 := lv_neT q1 (show (38 : Int32).toInt = 38 from rfl); have e42 := lv_neT q2 (show (42 : Int32).toInt = 42 from rfl); have e43 := lv_neT q3 (show (43 : Int32).toInt = 43 from rfl); have e45 := lv_neT q4 (show (45 : Int32).toInt = 45 from rfl); have e47 := lv_neT q5 (show (47 : Int32).toInt = 47 from rfl); have e60 := lv_neT q6 (show (60 : Int32).toInt = 60 from rfl); have e61 := lv_neT q7 (show (61 : Int32).toInt = 61 from rfl); have e62 := lv_neT q8 (show (62 : Int32).toInt = 62 from rfl); have e2039 := lv_neT m39 (show (39 : Int32).toInt = 39 from rfl); have e2040 := lv_neT m40 (show (40 : Int32).toInt = 40 from rfl); have e2041 := lv_neT m41 (show (41 : Int32).toInt = 41 from rfl); have e2044 := lv_neT m44 (show (44 : Int32).toInt = 44 from rfl); have e2046 := lv_neT m46 (show (46 : Int32).toInt = 46 from rfl); have e2048 := lv_neT m48 (show (48 : Int32).toInt = 48 from rfl); have e2049 := lv_neT m49 (show (49 : Int32).toInt = 49 from rfl); have e2050 := lv_neT m50 (show (50 : Int32).toInt = 50 from rfl); have e2051 := lv_neT m51 (show (51 : Int32).toInt = 51 from rfl); have e2052 := lv_neT m52 (show (52 : Int32).toInt = 52 from rfl); have e2053 := lv_neT m53 (show (53 : Int32).toInt = 53 from rfl); have e2054 := lv_neT m54 (show (54 : Int32).toInt = 54 from rfl); have e2055 := lv_neT m55 (show (55 : Int32).toInt = 55 from rfl); have e2056 := lv_neT m56 (show (56 : Int32).toInt = 56 from rfl); have e2057 := lv_neT m57 (show (57 : Int32).toInt = 57 from rfl); have e2058 := lv_neT m58 (show (58 : Int32).toInt = 58 from rfl); have e2059 := lv_neT m59 (show (59 : Int32).toInt = 59 from rfl); omega) rfl ?_
  refine g_lv (lv' := [(1, .int p1), (2, .int p2)]) [1, 2] rfl ?_
  exact w_Mo_twoOf_L218  C   p1 p2 hf
def y_Mo_worked : MethodName := ⟨"OneLampModel", "worked", "(III)I"⟩
theorem yy_Mo_worked : YV y_Mo_worked prog_13_method_40_code 7 (some .int) 3 := ⟨mw_5_235, mw_1_12, mw_5_234, tm_s (y := y_Mo_worked) (n := 58) (by decide +kernel), by decide +kernel, by decide +kernel, by decide +kernel⟩
theorem d_Mo_worked_0 : decode prog_13_method_40_code 0 = .ok (.iconst 0, 1) := by decide +kernel
theorem d_Mo_worked_1 : decode prog_13_method_40_code 1 = .ok (.istore 4, 2) := by decide +kernel
theorem d_Mo_worked_3 : decode prog_13_method_40_code 3 = .ok (.sipush 130, 3) := by decide +kernel
theorem d_Mo_worked_6 : decode prog_13_method_40_code 6 = .ok (.iload_n 1, 1) := by decide +kernel
theorem d_Mo_worked_7 : decode prog_13_method_40_code 7 = .ok (.imul, 1) := by decide +kernel
theorem d_Mo_worked_8 : decode prog_13_method_40_code 8 = .ok (.iload_n 2, 1) := by decide +kernel
theorem d_Mo_worked_9 : decode prog_13_method_40_code 9 = .ok (.iadd, 1) := by decide +kernel
theorem d_Mo_worked_10 : decode prog_13_method_40_code 10 = .ok (.istore 5, 2) := by decide +kernel
theorem d_Mo_worked_12 : decode prog_13_method_40_code 12 = .ok (.iload 5, 2) := by decide +kernel
theorem d_Mo_worked_14 : decode prog_13_method_40_code 14 = .ok (.sipush 130, 3) := by decide +kernel
theorem d_Mo_worked_17 : decode prog_13_method_40_code 17 = .ok (.iload_n 1, 1) := by decide +kernel
theorem d_Mo_worked_18 : decode prog_13_method_40_code 18 = .ok (.imul, 1) := by decide +kernel
theorem d_Mo_worked_19 : decode prog_13_method_40_code 19 = .ok (.iload_n 3, 1) := by decide +kernel
theorem d_Mo_worked_20 : decode prog_13_method_40_code 20 = .ok (.iadd, 1) := by decide +kernel
theorem d_Mo_worked_21 : decode prog_13_method_40_code 21 = .ok (.if_icmp .ge 167, 3) := by decide +kernel
theorem d_Mo_worked_24 : decode prog_13_method_40_code 24 = .ok (.aload_n 0, 1) := by decide +kernel
theorem d_Mo_worked_25 : decode prog_13_method_40_code 25 = .ok (.getfield 49, 3) := by decide +kernel
theorem d_Mo_worked_28 : decode prog_13_method_40_code 28 = .ok (.iload 5, 2) := by decide +kernel
theorem d_Mo_worked_30 : decode prog_13_method_40_code 30 = .ok (.baload, 1) := by decide +kernel
theorem d_Mo_worked_31 : decode prog_13_method_40_code 31 = .ok (.istore 6, 2) := by decide +kernel
theorem d_Mo_worked_33 : decode prog_13_method_40_code 33 = .ok (.iload 6, 2) := by decide +kernel
theorem d_Mo_worked_35 : decode prog_13_method_40_code 35 = .ok (.iconst 1, 1) := by decide +kernel
theorem d_Mo_worked_36 : decode prog_13_method_40_code 36 = .ok (.if_icmp .eq 9, 3) := by decide +kernel
theorem d_Mo_worked_39 : decode prog_13_method_40_code 39 = .ok (.iload 6, 2) := by decide +kernel
theorem d_Mo_worked_41 : decode prog_13_method_40_code 41 = .ok (.iconst 2, 1) := by decide +kernel
theorem d_Mo_worked_42 : decode prog_13_method_40_code 42 = .ok (.if_icmp .ne 44, 3) := by decide +kernel
theorem d_Mo_worked_45 : decode prog_13_method_40_code 45 = .ok (.aload_n 0, 1) := by decide +kernel
theorem d_Mo_worked_46 : decode prog_13_method_40_code 46 = .ok (.getfield 68, 3) := by decide +kernel
theorem d_Mo_worked_49 : decode prog_13_method_40_code 49 = .ok (.iload 4, 2) := by decide +kernel
theorem d_Mo_worked_51 : decode prog_13_method_40_code 51 = .ok (.iload 6, 2) := by decide +kernel
theorem d_Mo_worked_53 : decode prog_13_method_40_code 53 = .ok (.iconst 1, 1) := by decide +kernel
theorem d_Mo_worked_54 : decode prog_13_method_40_code 54 = .ok (.if_icmp .ne 13, 3) := by decide +kernel
theorem d_Mo_worked_57 : decode prog_13_method_40_code 57 = .ok (.aload_n 0, 1) := by decide +kernel
theorem d_Mo_worked_58 : decode prog_13_method_40_code 58 = .ok (.getfield 52, 3) := by decide +kernel
theorem d_Mo_worked_61 : decode prog_13_method_40_code 61 = .ok (.iload 5, 2) := by decide +kernel
theorem d_Mo_worked_63 : decode prog_13_method_40_code 63 = .ok (.iaload, 1) := by decide +kernel
theorem d_Mo_worked_64 : decode prog_13_method_40_code 64 = .ok (.goto 15, 3) := by decide +kernel
theorem d_Mo_worked_67 : decode prog_13_method_40_code 67 = .ok (.aload_n 0, 1) := by decide +kernel
theorem d_Mo_worked_68 : decode prog_13_method_40_code 68 = .ok (.getfield 65, 3) := by decide +kernel
theorem d_Mo_worked_71 : decode prog_13_method_40_code 71 = .ok (.aload_n 0, 1) := by decide +kernel
theorem d_Mo_worked_72 : decode prog_13_method_40_code 72 = .ok (.getfield 52, 3) := by decide +kernel
theorem d_Mo_worked_75 : decode prog_13_method_40_code 75 = .ok (.iload 5, 2) := by decide +kernel
theorem d_Mo_worked_77 : decode prog_13_method_40_code 77 = .ok (.iaload, 1) := by decide +kernel
theorem d_Mo_worked_78 : decode prog_13_method_40_code 78 = .ok (.iaload, 1) := by decide +kernel
theorem d_Mo_worked_79 : decode prog_13_method_40_code 79 = .ok (.iastore, 1) := by decide +kernel
theorem d_Mo_worked_80 : decode prog_13_method_40_code 80 = .ok (.iinc 4 1, 3) := by decide +kernel
theorem d_Mo_worked_83 : decode prog_13_method_40_code 83 = .ok (.goto 99, 3) := by decide +kernel
theorem d_Mo_worked_86 : decode prog_13_method_40_code 86 = .ok (.iload 6, 2) := by decide +kernel
theorem d_Mo_worked_88 : decode prog_13_method_40_code 88 = .ok (.iconst 3, 1) := by decide +kernel
theorem d_Mo_worked_89 : decode prog_13_method_40_code 89 = .ok (.if_icmp .ne 32, 3) := by decide +kernel
theorem d_Mo_worked_92 : decode prog_13_method_40_code 92 = .ok (.aload_n 0, 1) := by decide +kernel
theorem d_Mo_worked_93 : decode prog_13_method_40_code 93 = .ok (.getfield 68, 3) := by decide +kernel
theorem d_Mo_worked_96 : decode prog_13_method_40_code 96 = .ok (.iload 4, 2) := by decide +kernel
theorem d_Mo_worked_98 : decode prog_13_method_40_code 98 = .ok (.iconst 1, 1) := by decide +kernel
theorem d_Mo_worked_99 : decode prog_13_method_40_code 99 = .ok (.isub, 1) := by decide +kernel
theorem d_Mo_worked_100 : decode prog_13_method_40_code 100 = .ok (.aload_n 0, 1) := by decide +kernel
theorem d_Mo_worked_101 : decode prog_13_method_40_code 101 = .ok (.getfield 68, 3) := by decide +kernel
theorem d_Mo_worked_104 : decode prog_13_method_40_code 104 = .ok (.iload 4, 2) := by decide +kernel
theorem d_Mo_worked_106 : decode prog_13_method_40_code 106 = .ok (.iconst 1, 1) := by decide +kernel
theorem d_Mo_worked_107 : decode prog_13_method_40_code 107 = .ok (.isub, 1) := by decide +kernel
theorem d_Mo_worked_108 : decode prog_13_method_40_code 108 = .ok (.iaload, 1) := by decide +kernel
theorem d_Mo_worked_109 : decode prog_13_method_40_code 109 = .ok (.ifCond .ne 7, 3) := by decide +kernel
theorem d_Mo_worked_112 : decode prog_13_method_40_code 112 = .ok (.iconst 1, 1) := by decide +kernel
theorem d_Mo_worked_113 : decode prog_13_method_40_code 113 = .ok (.goto 4, 3) := by decide +kernel
theorem d_Mo_worked_116 : decode prog_13_method_40_code 116 = .ok (.iconst 0, 1) := by decide +kernel
theorem d_Mo_worked_117 : decode prog_13_method_40_code 117 = .ok (.iastore, 1) := by decide +kernel
theorem d_Mo_worked_118 : decode prog_13_method_40_code 118 = .ok (.goto 64, 3) := by decide +kernel
theorem d_Mo_worked_121 : decode prog_13_method_40_code 121 = .ok (.iload 6, 2) := by decide +kernel
theorem d_Mo_worked_123 : decode prog_13_method_40_code 123 = .ok (.iconst 4, 1) := by decide +kernel
theorem d_Mo_worked_124 : decode prog_13_method_40_code 124 = .ok (.if_icmp .ne 25, 3) := by decide +kernel
theorem d_Mo_worked_127 : decode prog_13_method_40_code 127 = .ok (.aload_n 0, 1) := by decide +kernel
theorem d_Mo_worked_128 : decode prog_13_method_40_code 128 = .ok (.getfield 68, 3) := by decide +kernel
theorem d_Mo_worked_131 : decode prog_13_method_40_code 131 = .ok (.iload 4, 2) := by decide +kernel
theorem d_Mo_worked_133 : decode prog_13_method_40_code 133 = .ok (.iconst 1, 1) := by decide +kernel
theorem d_Mo_worked_134 : decode prog_13_method_40_code 134 = .ok (.isub, 1) := by decide +kernel
theorem d_Mo_worked_135 : decode prog_13_method_40_code 135 = .ok (.aload_n 0, 1) := by decide +kernel
theorem d_Mo_worked_136 : decode prog_13_method_40_code 136 = .ok (.getfield 68, 3) := by decide +kernel
theorem d_Mo_worked_139 : decode prog_13_method_40_code 139 = .ok (.iload 4, 2) := by decide +kernel
theorem d_Mo_worked_141 : decode prog_13_method_40_code 141 = .ok (.iconst 1, 1) := by decide +kernel
theorem d_Mo_worked_142 : decode prog_13_method_40_code 142 = .ok (.isub, 1) := by decide +kernel
theorem d_Mo_worked_143 : decode prog_13_method_40_code 143 = .ok (.iaload, 1) := by decide +kernel
theorem d_Mo_worked_144 : decode prog_13_method_40_code 144 = .ok (.ineg, 1) := by decide +kernel
theorem d_Mo_worked_145 : decode prog_13_method_40_code 145 = .ok (.iastore, 1) := by decide +kernel
theorem d_Mo_worked_146 : decode prog_13_method_40_code 146 = .ok (.goto 36, 3) := by decide +kernel
theorem d_Mo_worked_149 : decode prog_13_method_40_code 149 = .ok (.iinc 4 (-1), 3) := by decide +kernel
theorem d_Mo_worked_152 : decode prog_13_method_40_code 152 = .ok (.aload_n 0, 1) := by decide +kernel
theorem d_Mo_worked_153 : decode prog_13_method_40_code 153 = .ok (.getfield 68, 3) := by decide +kernel
theorem d_Mo_worked_156 : decode prog_13_method_40_code 156 = .ok (.iload 4, 2) := by decide +kernel
theorem d_Mo_worked_158 : decode prog_13_method_40_code 158 = .ok (.iconst 1, 1) := by decide +kernel
theorem d_Mo_worked_159 : decode prog_13_method_40_code 159 = .ok (.isub, 1) := by decide +kernel
theorem d_Mo_worked_160 : decode prog_13_method_40_code 160 = .ok (.iload 6, 2) := by decide +kernel
theorem d_Mo_worked_162 : decode prog_13_method_40_code 162 = .ok (.aload_n 0, 1) := by decide +kernel
theorem d_Mo_worked_163 : decode prog_13_method_40_code 163 = .ok (.getfield 68, 3) := by decide +kernel
theorem d_Mo_worked_166 : decode prog_13_method_40_code 166 = .ok (.iload 4, 2) := by decide +kernel
theorem d_Mo_worked_168 : decode prog_13_method_40_code 168 = .ok (.iconst 1, 1) := by decide +kernel
theorem d_Mo_worked_169 : decode prog_13_method_40_code 169 = .ok (.isub, 1) := by decide +kernel
theorem d_Mo_worked_170 : decode prog_13_method_40_code 170 = .ok (.iaload, 1) := by decide +kernel
theorem d_Mo_worked_171 : decode prog_13_method_40_code 171 = .ok (.aload_n 0, 1) := by decide +kernel
theorem d_Mo_worked_172 : decode prog_13_method_40_code 172 = .ok (.getfield 68, 3) := by decide +kernel
theorem d_Mo_worked_175 : decode prog_13_method_40_code 175 = .ok (.iload 4, 2) := by decide +kernel
theorem d_Mo_worked_177 : decode prog_13_method_40_code 177 = .ok (.iaload, 1) := by decide +kernel
theorem d_Mo_worked_178 : decode prog_13_method_40_code 178 = .ok (.invokestatic 239, 3) := by decide +kernel
theorem d_Mo_worked_181 : decode prog_13_method_40_code 181 = .ok (.iastore, 1) := by decide +kernel
theorem d_Mo_worked_182 : decode prog_13_method_40_code 182 = .ok (.iinc 5 1, 3) := by decide +kernel
theorem d_Mo_worked_185 : decode prog_13_method_40_code 185 = .ok (.goto (-173), 3) := by decide +kernel
theorem d_Mo_worked_188 : decode prog_13_method_40_code 188 = .ok (.aload_n 0, 1) := by decide +kernel
theorem d_Mo_worked_189 : decode prog_13_method_40_code 189 = .ok (.getfield 68, 3) := by decide +kernel
theorem d_Mo_worked_192 : decode prog_13_method_40_code 192 = .ok (.iconst 0, 1) := by decide +kernel
theorem d_Mo_worked_193 : decode prog_13_method_40_code 193 = .ok (.iaload, 1) := by decide +kernel
theorem d_Mo_worked_194 : decode prog_13_method_40_code 194 = .ok (.ireturn, 1) := by decide +kernel
def f_Mo_worked_L182  (k12 : Int32 → Int32 → Int32 → Int32 → (Nat → Int32) → (Nat → Int32) → (Nat → Int32) → (Nat → Int32) → Option (Int32 × (Nat → Int32))) (v1 : Int32) (v3 : Int32) (v4 : Int32) (v5 : Int32) (x_o_act : Nat → Int32) (x_o_pile : Nat → Int32) (x_o_with : Nat → Int32) (x_o_facts : Nat → Int32) : Option (Int32 × (Nat → Int32)) :=
  k12 v1 v3 v4 (v5 + 1) x_o_act x_o_pile x_o_with x_o_facts
set_option maxRecDepth 20000 in
theorem w_Mo_worked_L182 {p : Program} {l : Launch} {e : Env} {s : State} {m : MethodId} {args : Array Value} {below : List Frame} {meth : Method} {c : Code} {D : va_G} {dA : Nat → ClassId} {A : Nat → Prop} (C : GC p s m args meth c prog_13_method_40_code 7 "OneLampModel" (some .int) D dA A) {a_o a_o_had a_o_told a_o_barred a_o_cost a_o_last a_o_often a_o_changeOf a_o_changeAt a_o_before a_o_behind a_o_tape a_o_act a_o_with a_o_lineMany a_o_testEnd a_o_lineEnd a_o_facts a_o_pile a_o_way a_o_bestWay a_o_wasHad a_o_wasLast a_o_keptHad a_o_keptTold a_o_keptLast a_o_keptOften a_o_kind a_o_traced a_o_holds a_o_size a_o_elements a_o_shifted : Nat} {x_o_code : Int32} {x_o_lamps : Int32} {x_o_at : Int32} {x_o_night : Int32} {x_o_spent : Int32} {x_o_rest : Int32} {x_o_shy : Int32} {x_o_hasBegun : Bool} {x_o_doneMany : Int32} {x_o_undoneMany : Int32} {x_o_taped : Int32} {x_o_here : Int32} {x_o_fault : Int32} {x_o_open : Int32} {x_o_laid : Int32} {x_o_hasLaw : Bool} {x_o_bestMany : Int32} {x_o_wasAt : Int32} {x_o_wasNight : Int32} {x_o_hasImage : Bool} {x_o_keptLamps : Int32} {x_o_keptAt : Int32} {x_o_keptNight : Int32} {x_o_keptSpent : Int32} {x_o_bodies : Int32} {x_o_traces : Int32} {r0 : Int32} {o_x_o_pile : Nat → Int32}   (k12 : Int32 → Int32 → Int32 → Int32 → (Nat → Int32) → (Nat → Int32) → (Nat → Int32) → (Nat → Int32) → Option (Int32 × (Nat → Int32))) (hk12 : ∀ (v1 : Int32) (v3 : Int32) (v4 : Int32) (v5 : Int32) (x_o_act : Nat → Int32) (x_o_pile : Nat → Int32) (x_o_with : Nat → Int32) (x_o_facts : Nat → Int32), k12 v1 v3 v4 v5 x_o_act x_o_pile x_o_with x_o_facts = some (r0, o_x_o_pile) → GG p l e { frames := 1, cells := 0, slots := 0, locals := 22 } s m args below meth c 7 D A 0 0 (MQ below (cQ D A (some (.int r0)) (fun _ : Unit => [O_Mo a_o x_o_code x_o_lamps x_o_at x_o_night x_o_spent x_o_rest x_o_shy a_o_had a_o_told a_o_barred a_o_cost a_o_last a_o_often x_o_hasBegun x_o_doneMany x_o_undoneMany a_o_changeOf a_o_changeAt a_o_before a_o_behind a_o_tape x_o_taped x_o_here x_o_fault x_o_open x_o_laid a_o_act a_o_with a_o_lineMany a_o_testEnd a_o_lineEnd a_o_facts a_o_pile x_o_hasLaw a_o_way a_o_bestWay x_o_bestMany a_o_wasHad a_o_wasLast x_o_wasAt x_o_wasNight x_o_hasImage x_o_keptLamps x_o_keptAt x_o_keptNight x_o_keptSpent a_o_keptHad a_o_keptTold a_o_keptLast a_o_keptOften x_o_bodies a_o_kind x_o_traces a_o_traced a_o_holds a_o_size a_o_elements a_o_shifted, A_B dA a_o_act 260 x_o_act, A_I dA a_o_pile 130 o_x_o_pile, A_I dA a_o_with 260 x_o_with, A_I dA a_o_facts 4 x_o_facts])) args s 0 0 A) 12 [(0, .ref a_o), (1, .int v1), (3, .int v3), (4, .int v4), (5, .int v5)] [] [O_Mo a_o x_o_code x_o_lamps x_o_at x_o_night x_o_spent x_o_rest x_o_shy a_o_had a_o_told a_o_barred a_o_cost a_o_last a_o_often x_o_hasBegun x_o_doneMany x_o_undoneMany a_o_changeOf a_o_changeAt a_o_before a_o_behind a_o_tape x_o_taped x_o_here x_o_fault x_o_open x_o_laid a_o_act a_o_with a_o_lineMany a_o_testEnd a_o_lineEnd a_o_facts a_o_pile x_o_hasLaw a_o_way a_o_bestWay x_o_bestMany a_o_wasHad a_o_wasLast x_o_wasAt x_o_wasNight x_o_hasImage x_o_keptLamps x_o_keptAt x_o_keptNight x_o_keptSpent a_o_keptHad a_o_keptTold a_o_keptLast a_o_keptOften x_o_bodies a_o_kind x_o_traces a_o_traced a_o_holds a_o_size a_o_elements a_o_shifted, A_B dA a_o_act 260 x_o_act, A_I dA a_o_pile 130 x_o_pile, A_I dA a_o_with 260 x_o_with, A_I dA a_o_facts 4 x_o_facts]) (v1 : Int32) (v3 : Int32) (v4 : Int32) (v5 : Int32) (x_o_act : Nat → Int32) (x_o_pile : Nat → Int32) (x_o_with : Nat → Int32) (x_o_facts : Nat → Int32) (hf : f_Mo_worked_L182  k12 v1 v3 v4 v5 x_o_act x_o_pile x_o_with x_o_facts = some (r0, o_x_o_pile)) : GG p l e { frames := 1, cells := 0, slots := 0, locals := 22 } s m args below meth c 7 D A 0 0 (MQ below (cQ D A (some (.int r0)) (fun _ : Unit => [O_Mo a_o x_o_code x_o_lamps x_o_at x_o_night x_o_spent x_o_rest x_o_shy a_o_had a_o_told a_o_barred a_o_cost a_o_last a_o_often x_o_hasBegun x_o_doneMany x_o_undoneMany a_o_changeOf a_o_changeAt a_o_before a_o_behind a_o_tape x_o_taped x_o_here x_o_fault x_o_open x_o_laid a_o_act a_o_with a_o_lineMany a_o_testEnd a_o_lineEnd a_o_facts a_o_pile x_o_hasLaw a_o_way a_o_bestWay x_o_bestMany a_o_wasHad a_o_wasLast x_o_wasAt x_o_wasNight x_o_hasImage x_o_keptLamps x_o_keptAt x_o_keptNight x_o_keptSpent a_o_keptHad a_o_keptTold a_o_keptLast a_o_keptOften x_o_bodies a_o_kind x_o_traces a_o_traced a_o_holds a_o_size a_o_elements a_o_shifted, A_B dA a_o_act 260 x_o_act, A_I dA a_o_pile 130 o_x_o_pile, A_I dA a_o_with 260 x_o_with, A_I dA a_o_facts 4 x_o_facts])) args s 0 0 A) 182 [(0, .ref a_o), (1, .int v1), (3, .int v3), (4, .int v4), (5, .int v5)] [] [O_Mo a_o x_o_code x_o_lamps x_o_at x_o_night x_o_spent x_o_rest x_o_shy a_o_had a_o_told a_o_barred a_o_cost a_o_last a_o_often x_o_hasBegun x_o_doneMany x_o_undoneMany a_o_changeOf a_o_changeAt a_o_before a_o_behind a_o_tape x_o_taped x_o_here x_o_fault x_o_open x_o_laid a_o_act a_o_with a_o_lineMany a_o_testEnd a_o_lineEnd a_o_facts a_o_pile x_o_hasLaw a_o_way a_o_bestWay x_o_bestMany a_o_wasHad a_o_wasLast x_o_wasAt x_o_wasNight x_o_hasImage x_o_keptLamps x_o_keptAt x_o_keptNight x_o_keptSpent a_o_keptHad a_o_keptTold a_o_keptLast a_o_keptOften x_o_bodies a_o_kind x_o_traces a_o_traced a_o_holds a_o_size a_o_elements a_o_shifted, A_B dA a_o_act 260 x_o_act, A_I dA a_o_pile 130 x_o_pile, A_I dA a_o_with 260 x_o_with, A_I dA a_o_facts 4 x_o_facts] := by
  unfold f_Mo_worked_L182 at hf
  refine g_iinc (pc' := 185) (j := 4) (v := (v5 + 1)) (lv' := [(5, .int (v5 + 1)), (0, .ref a_o), (1, .int v1), (3, .int v3), (4, .int v4)]) C d_Mo_worked_182 rfl rfl rfl (by decide) rfl ?_
  refine g_goto (tgt := 12) C d_Mo_worked_185 rfl ?_
  refine g_lv (lv' := [(0, .ref a_o), (1, .int v1), (3, .int v3), (4, .int v4), (5, .int (v5 + 1))]) [1, 2, 3, 4, 0] rfl ?_
  exact hk12 v1 v3 v4 (v5 + 1) x_o_act x_o_pile x_o_with x_o_facts hf
def f_Mo_worked_L79  (k12 : Int32 → Int32 → Int32 → Int32 → (Nat → Int32) → (Nat → Int32) → (Nat → Int32) → (Nat → Int32) → Option (Int32 × (Nat → Int32))) (v1 : Int32) (v3 : Int32) (v4 : Int32) (v5 : Int32) (s0 : Int32) (s1 : Int32) (x_o_act : Nat → Int32) (x_o_pile : Nat → Int32) (x_o_with : Nat → Int32) (x_o_facts : Nat → Int32) : Option (Int32 × (Nat → Int32)) :=
  if s1 < 0 ∨ 130 ≤ Int32.toNatClampNeg s1 then none else
  f_Mo_worked_L182 k12 v1 v3 (v4 + 1) v5 x_o_act (upd x_o_pile (Int32.toNatClampNeg s1) s0) x_o_with x_o_facts
set_option maxRecDepth 20000 in
theorem w_Mo_worked_L79 {p : Program} {l : Launch} {e : Env} {s : State} {m : MethodId} {args : Array Value} {below : List Frame} {meth : Method} {c : Code} {D : va_G} {dA : Nat → ClassId} {A : Nat → Prop} (C : GC p s m args meth c prog_13_method_40_code 7 "OneLampModel" (some .int) D dA A) {a_o a_o_had a_o_told a_o_barred a_o_cost a_o_last a_o_often a_o_changeOf a_o_changeAt a_o_before a_o_behind a_o_tape a_o_act a_o_with a_o_lineMany a_o_testEnd a_o_lineEnd a_o_facts a_o_pile a_o_way a_o_bestWay a_o_wasHad a_o_wasLast a_o_keptHad a_o_keptTold a_o_keptLast a_o_keptOften a_o_kind a_o_traced a_o_holds a_o_size a_o_elements a_o_shifted : Nat} {x_o_code : Int32} {x_o_lamps : Int32} {x_o_at : Int32} {x_o_night : Int32} {x_o_spent : Int32} {x_o_rest : Int32} {x_o_shy : Int32} {x_o_hasBegun : Bool} {x_o_doneMany : Int32} {x_o_undoneMany : Int32} {x_o_taped : Int32} {x_o_here : Int32} {x_o_fault : Int32} {x_o_open : Int32} {x_o_laid : Int32} {x_o_hasLaw : Bool} {x_o_bestMany : Int32} {x_o_wasAt : Int32} {x_o_wasNight : Int32} {x_o_hasImage : Bool} {x_o_keptLamps : Int32} {x_o_keptAt : Int32} {x_o_keptNight : Int32} {x_o_keptSpent : Int32} {x_o_bodies : Int32} {x_o_traces : Int32} {r0 : Int32} {o_x_o_pile : Nat → Int32}   (k12 : Int32 → Int32 → Int32 → Int32 → (Nat → Int32) → (Nat → Int32) → (Nat → Int32) → (Nat → Int32) → Option (Int32 × (Nat → Int32))) (hk12 : ∀ (v1 : Int32) (v3 : Int32) (v4 : Int32) (v5 : Int32) (x_o_act : Nat → Int32) (x_o_pile : Nat → Int32) (x_o_with : Nat → Int32) (x_o_facts : Nat → Int32), k12 v1 v3 v4 v5 x_o_act x_o_pile x_o_with x_o_facts = some (r0, o_x_o_pile) → GG p l e { frames := 1, cells := 0, slots := 0, locals := 22 } s m args below meth c 7 D A 0 0 (MQ below (cQ D A (some (.int r0)) (fun _ : Unit => [O_Mo a_o x_o_code x_o_lamps x_o_at x_o_night x_o_spent x_o_rest x_o_shy a_o_had a_o_told a_o_barred a_o_cost a_o_last a_o_often x_o_hasBegun x_o_doneMany x_o_undoneMany a_o_changeOf a_o_changeAt a_o_before a_o_behind a_o_tape x_o_taped x_o_here x_o_fault x_o_open x_o_laid a_o_act a_o_with a_o_lineMany a_o_testEnd a_o_lineEnd a_o_facts a_o_pile x_o_hasLaw a_o_way a_o_bestWay x_o_bestMany a_o_wasHad a_o_wasLast x_o_wasAt x_o_wasNight x_o_hasImage x_o_keptLamps x_o_keptAt x_o_keptNight x_o_keptSpent a_o_keptHad a_o_keptTold a_o_keptLast a_o_keptOften x_o_bodies a_o_kind x_o_traces a_o_traced a_o_holds a_o_size a_o_elements a_o_shifted, A_B dA a_o_act 260 x_o_act, A_I dA a_o_pile 130 o_x_o_pile, A_I dA a_o_with 260 x_o_with, A_I dA a_o_facts 4 x_o_facts])) args s 0 0 A) 12 [(0, .ref a_o), (1, .int v1), (3, .int v3), (4, .int v4), (5, .int v5)] [] [O_Mo a_o x_o_code x_o_lamps x_o_at x_o_night x_o_spent x_o_rest x_o_shy a_o_had a_o_told a_o_barred a_o_cost a_o_last a_o_often x_o_hasBegun x_o_doneMany x_o_undoneMany a_o_changeOf a_o_changeAt a_o_before a_o_behind a_o_tape x_o_taped x_o_here x_o_fault x_o_open x_o_laid a_o_act a_o_with a_o_lineMany a_o_testEnd a_o_lineEnd a_o_facts a_o_pile x_o_hasLaw a_o_way a_o_bestWay x_o_bestMany a_o_wasHad a_o_wasLast x_o_wasAt x_o_wasNight x_o_hasImage x_o_keptLamps x_o_keptAt x_o_keptNight x_o_keptSpent a_o_keptHad a_o_keptTold a_o_keptLast a_o_keptOften x_o_bodies a_o_kind x_o_traces a_o_traced a_o_holds a_o_size a_o_elements a_o_shifted, A_B dA a_o_act 260 x_o_act, A_I dA a_o_pile 130 x_o_pile, A_I dA a_o_with 260 x_o_with, A_I dA a_o_facts 4 x_o_facts]) (v1 : Int32) (v3 : Int32) (v4 : Int32) (v5 : Int32) (s0 : Int32) (s1 : Int32) (x_o_act : Nat → Int32) (x_o_pile : Nat → Int32) (x_o_with : Nat → Int32) (x_o_facts : Nat → Int32) (hf : f_Mo_worked_L79  k12 v1 v3 v4 v5 s0 s1 x_o_act x_o_pile x_o_with x_o_facts = some (r0, o_x_o_pile)) : GG p l e { frames := 1, cells := 0, slots := 0, locals := 22 } s m args below meth c 7 D A 0 0 (MQ below (cQ D A (some (.int r0)) (fun _ : Unit => [O_Mo a_o x_o_code x_o_lamps x_o_at x_o_night x_o_spent x_o_rest x_o_shy a_o_had a_o_told a_o_barred a_o_cost a_o_last a_o_often x_o_hasBegun x_o_doneMany x_o_undoneMany a_o_changeOf a_o_changeAt a_o_before a_o_behind a_o_tape x_o_taped x_o_here x_o_fault x_o_open x_o_laid a_o_act a_o_with a_o_lineMany a_o_testEnd a_o_lineEnd a_o_facts a_o_pile x_o_hasLaw a_o_way a_o_bestWay x_o_bestMany a_o_wasHad a_o_wasLast x_o_wasAt x_o_wasNight x_o_hasImage x_o_keptLamps x_o_keptAt x_o_keptNight x_o_keptSpent a_o_keptHad a_o_keptTold a_o_keptLast a_o_keptOften x_o_bodies a_o_kind x_o_traces a_o_traced a_o_holds a_o_size a_o_elements a_o_shifted, A_B dA a_o_act 260 x_o_act, A_I dA a_o_pile 130 o_x_o_pile, A_I dA a_o_with 260 x_o_with, A_I dA a_o_facts 4 x_o_facts])) args s 0 0 A) 79 [(0, .ref a_o), (1, .int v1), (3, .int v3), (4, .int v4), (5, .int v5)] [.int s0, .int s1, .ref a_o_pile] [O_Mo a_o x_o_code x_o_lamps x_o_at x_o_night x_o_spent x_o_rest x_o_shy a_o_had a_o_told a_o_barred a_o_cost a_o_last a_o_often x_o_hasBegun x_o_doneMany x_o_undoneMany a_o_changeOf a_o_changeAt a_o_before a_o_behind a_o_tape x_o_taped x_o_here x_o_fault x_o_open x_o_laid a_o_act a_o_with a_o_lineMany a_o_testEnd a_o_lineEnd a_o_facts a_o_pile x_o_hasLaw a_o_way a_o_bestWay x_o_bestMany a_o_wasHad a_o_wasLast x_o_wasAt x_o_wasNight x_o_hasImage x_o_keptLamps x_o_keptAt x_o_keptNight x_o_keptSpent a_o_keptHad a_o_keptTold a_o_keptLast a_o_keptOften x_o_bodies a_o_kind x_o_traces a_o_traced a_o_holds a_o_size a_o_elements a_o_shifted, A_B dA a_o_act 260 x_o_act, A_I dA a_o_pile 130 x_o_pile, A_I dA a_o_with 260 x_o_with, A_I dA a_o_facts 4 x_o_facts] := by
  unfold f_Mo_worked_L79 at hf
  have hb := g_ck hf
  replace hf := g_in hb hf
  refine g_iast (pc' := 80) (ws' := [O_Mo a_o x_o_code x_o_lamps x_o_at x_o_night x_o_spent x_o_rest x_o_shy a_o_had a_o_told a_o_barred a_o_cost a_o_last a_o_often x_o_hasBegun x_o_doneMany x_o_undoneMany a_o_changeOf a_o_changeAt a_o_before a_o_behind a_o_tape x_o_taped x_o_here x_o_fault x_o_open x_o_laid a_o_act a_o_with a_o_lineMany a_o_testEnd a_o_lineEnd a_o_facts a_o_pile x_o_hasLaw a_o_way a_o_bestWay x_o_bestMany a_o_wasHad a_o_wasLast x_o_wasAt x_o_wasNight x_o_hasImage x_o_keptLamps x_o_keptAt x_o_keptNight x_o_keptSpent a_o_keptHad a_o_keptTold a_o_keptLast a_o_keptOften x_o_bodies a_o_kind x_o_traces a_o_traced a_o_holds a_o_size a_o_elements a_o_shifted, A_B dA a_o_act 260 x_o_act, A_I dA a_o_pile 130 (upd x_o_pile (Int32.toNatClampNeg s1) s0), A_I dA a_o_with 260 x_o_with, A_I dA a_o_facts 4 x_o_facts]) C d_Mo_worked_79 rfl 2 rfl hb rfl ?_
  refine g_iinc (pc' := 83) (j := 3) (v := (v4 + 1)) (lv' := [(4, .int (v4 + 1)), (0, .ref a_o), (1, .int v1), (3, .int v3), (5, .int v5)]) C d_Mo_worked_80 rfl rfl rfl (by decide) rfl ?_
  refine g_goto (tgt := 182) C d_Mo_worked_83 rfl ?_
  refine g_lv (lv' := [(0, .ref a_o), (1, .int v1), (3, .int v3), (4, .int (v4 + 1)), (5, .int v5)]) [1, 2, 3, 0, 4] rfl ?_
  exact w_Mo_worked_L182 (a_o := a_o) (a_o_had := a_o_had) (a_o_told := a_o_told) (a_o_barred := a_o_barred) (a_o_cost := a_o_cost) (a_o_last := a_o_last) (a_o_often := a_o_often) (a_o_changeOf := a_o_changeOf) (a_o_changeAt := a_o_changeAt) (a_o_before := a_o_before) (a_o_behind := a_o_behind) (a_o_tape := a_o_tape) (a_o_act := a_o_act) (a_o_with := a_o_with) (a_o_lineMany := a_o_lineMany) (a_o_testEnd := a_o_testEnd) (a_o_lineEnd := a_o_lineEnd) (a_o_facts := a_o_facts) (a_o_pile := a_o_pile) (a_o_way := a_o_way) (a_o_bestWay := a_o_bestWay) (a_o_wasHad := a_o_wasHad) (a_o_wasLast := a_o_wasLast) (a_o_keptHad := a_o_keptHad) (a_o_keptTold := a_o_keptTold) (a_o_keptLast := a_o_keptLast) (a_o_keptOften := a_o_keptOften) (a_o_kind := a_o_kind) (a_o_traced := a_o_traced) (a_o_holds := a_o_holds) (a_o_size := a_o_size) (a_o_elements := a_o_elements) (a_o_shifted := a_o_shifted) C  k12 hk12 v1 v3 (v4 + 1) v5 x_o_act (upd x_o_pile (Int32.toNatClampNeg s1) s0) x_o_with x_o_facts hf
def f_Mo_worked_L45  (k12 : Int32 → Int32 → Int32 → Int32 → (Nat → Int32) → (Nat → Int32) → (Nat → Int32) → (Nat → Int32) → Option (Int32 × (Nat → Int32))) (v1 : Int32) (v3 : Int32) (v4 : Int32) (v5 : Int32) (v6 : Int32) (x_o_act : Nat → Int32) (x_o_pile : Nat → Int32) (x_o_with : Nat → Int32) (x_o_facts : Nat → Int32) : Option (Int32 × (Nat → Int32)) :=
  if v6 = (1 : Int32) then
    (if v5 < 0 ∨ 260 ≤ Int32.toNatClampNeg v5 then none else
    f_Mo_worked_L79 k12 v1 v3 v4 v5 (x_o_with (Int32.toNatClampNeg v5)) v4 x_o_act x_o_pile x_o_with x_o_facts)
  else
    (if v5 < 0 ∨ 260 ≤ Int32.toNatClampNeg v5 then none else
    if (x_o_with (Int32.toNatClampNeg v5)) < 0 ∨ 4 ≤ Int32.toNatClampNeg (x_o_with (Int32.toNatClampNeg v5)) then none else
    f_Mo_worked_L79 k12 v1 v3 v4 v5 (x_o_facts (Int32.toNatClampNeg (x_o_with (Int32.toNatClampNeg v5)))) v4 x_o_act x_o_pile x_o_with x_o_facts)
set_option maxRecDepth 20000 in
theorem w_Mo_worked_L45 {p : Program} {l : Launch} {e : Env} {s : State} {m : MethodId} {args : Array Value} {below : List Frame} {meth : Method} {c : Code} {D : va_G} {dA : Nat → ClassId} {A : Nat → Prop} (C : GC p s m args meth c prog_13_method_40_code 7 "OneLampModel" (some .int) D dA A) {a_o a_o_had a_o_told a_o_barred a_o_cost a_o_last a_o_often a_o_changeOf a_o_changeAt a_o_before a_o_behind a_o_tape a_o_act a_o_with a_o_lineMany a_o_testEnd a_o_lineEnd a_o_facts a_o_pile a_o_way a_o_bestWay a_o_wasHad a_o_wasLast a_o_keptHad a_o_keptTold a_o_keptLast a_o_keptOften a_o_kind a_o_traced a_o_holds a_o_size a_o_elements a_o_shifted : Nat} {x_o_code : Int32} {x_o_lamps : Int32} {x_o_at : Int32} {x_o_night : Int32} {x_o_spent : Int32} {x_o_rest : Int32} {x_o_shy : Int32} {x_o_hasBegun : Bool} {x_o_doneMany : Int32} {x_o_undoneMany : Int32} {x_o_taped : Int32} {x_o_here : Int32} {x_o_fault : Int32} {x_o_open : Int32} {x_o_laid : Int32} {x_o_hasLaw : Bool} {x_o_bestMany : Int32} {x_o_wasAt : Int32} {x_o_wasNight : Int32} {x_o_hasImage : Bool} {x_o_keptLamps : Int32} {x_o_keptAt : Int32} {x_o_keptNight : Int32} {x_o_keptSpent : Int32} {x_o_bodies : Int32} {x_o_traces : Int32} {r0 : Int32} {o_x_o_pile : Nat → Int32}   (k12 : Int32 → Int32 → Int32 → Int32 → (Nat → Int32) → (Nat → Int32) → (Nat → Int32) → (Nat → Int32) → Option (Int32 × (Nat → Int32))) (hk12 : ∀ (v1 : Int32) (v3 : Int32) (v4 : Int32) (v5 : Int32) (x_o_act : Nat → Int32) (x_o_pile : Nat → Int32) (x_o_with : Nat → Int32) (x_o_facts : Nat → Int32), k12 v1 v3 v4 v5 x_o_act x_o_pile x_o_with x_o_facts = some (r0, o_x_o_pile) → GG p l e { frames := 1, cells := 0, slots := 0, locals := 22 } s m args below meth c 7 D A 0 0 (MQ below (cQ D A (some (.int r0)) (fun _ : Unit => [O_Mo a_o x_o_code x_o_lamps x_o_at x_o_night x_o_spent x_o_rest x_o_shy a_o_had a_o_told a_o_barred a_o_cost a_o_last a_o_often x_o_hasBegun x_o_doneMany x_o_undoneMany a_o_changeOf a_o_changeAt a_o_before a_o_behind a_o_tape x_o_taped x_o_here x_o_fault x_o_open x_o_laid a_o_act a_o_with a_o_lineMany a_o_testEnd a_o_lineEnd a_o_facts a_o_pile x_o_hasLaw a_o_way a_o_bestWay x_o_bestMany a_o_wasHad a_o_wasLast x_o_wasAt x_o_wasNight x_o_hasImage x_o_keptLamps x_o_keptAt x_o_keptNight x_o_keptSpent a_o_keptHad a_o_keptTold a_o_keptLast a_o_keptOften x_o_bodies a_o_kind x_o_traces a_o_traced a_o_holds a_o_size a_o_elements a_o_shifted, A_B dA a_o_act 260 x_o_act, A_I dA a_o_pile 130 o_x_o_pile, A_I dA a_o_with 260 x_o_with, A_I dA a_o_facts 4 x_o_facts])) args s 0 0 A) 12 [(0, .ref a_o), (1, .int v1), (3, .int v3), (4, .int v4), (5, .int v5)] [] [O_Mo a_o x_o_code x_o_lamps x_o_at x_o_night x_o_spent x_o_rest x_o_shy a_o_had a_o_told a_o_barred a_o_cost a_o_last a_o_often x_o_hasBegun x_o_doneMany x_o_undoneMany a_o_changeOf a_o_changeAt a_o_before a_o_behind a_o_tape x_o_taped x_o_here x_o_fault x_o_open x_o_laid a_o_act a_o_with a_o_lineMany a_o_testEnd a_o_lineEnd a_o_facts a_o_pile x_o_hasLaw a_o_way a_o_bestWay x_o_bestMany a_o_wasHad a_o_wasLast x_o_wasAt x_o_wasNight x_o_hasImage x_o_keptLamps x_o_keptAt x_o_keptNight x_o_keptSpent a_o_keptHad a_o_keptTold a_o_keptLast a_o_keptOften x_o_bodies a_o_kind x_o_traces a_o_traced a_o_holds a_o_size a_o_elements a_o_shifted, A_B dA a_o_act 260 x_o_act, A_I dA a_o_pile 130 x_o_pile, A_I dA a_o_with 260 x_o_with, A_I dA a_o_facts 4 x_o_facts]) (v1 : Int32) (v3 : Int32) (v4 : Int32) (v5 : Int32) (v6 : Int32) (x_o_act : Nat → Int32) (x_o_pile : Nat → Int32) (x_o_with : Nat → Int32) (x_o_facts : Nat → Int32) (hf : f_Mo_worked_L45  k12 v1 v3 v4 v5 v6 x_o_act x_o_pile x_o_with x_o_facts = some (r0, o_x_o_pile)) : GG p l e { frames := 1, cells := 0, slots := 0, locals := 22 } s m args below meth c 7 D A 0 0 (MQ below (cQ D A (some (.int r0)) (fun _ : Unit => [O_Mo a_o x_o_code x_o_lamps x_o_at x_o_night x_o_spent x_o_rest x_o_shy a_o_had a_o_told a_o_barred a_o_cost a_o_last a_o_often x_o_hasBegun x_o_doneMany x_o_undoneMany a_o_changeOf a_o_changeAt a_o_before a_o_behind a_o_tape x_o_taped x_o_here x_o_fault x_o_open x_o_laid a_o_act a_o_with a_o_lineMany a_o_testEnd a_o_lineEnd a_o_facts a_o_pile x_o_hasLaw a_o_way a_o_bestWay x_o_bestMany a_o_wasHad a_o_wasLast x_o_wasAt x_o_wasNight x_o_hasImage x_o_keptLamps x_o_keptAt x_o_keptNight x_o_keptSpent a_o_keptHad a_o_keptTold a_o_keptLast a_o_keptOften x_o_bodies a_o_kind x_o_traces a_o_traced a_o_holds a_o_size a_o_elements a_o_shifted, A_B dA a_o_act 260 x_o_act, A_I dA a_o_pile 130 o_x_o_pile, A_I dA a_o_with 260 x_o_with, A_I dA a_o_facts 4 x_o_facts])) args s 0 0 A) 45 [(0, .ref a_o), (1, .int v1), (3, .int v3), (4, .int v4), (5, .int v5), (6, .int v6)] [] [O_Mo a_o x_o_code x_o_lamps x_o_at x_o_night x_o_spent x_o_rest x_o_shy a_o_had a_o_told a_o_barred a_o_cost a_o_last a_o_often x_o_hasBegun x_o_doneMany x_o_undoneMany a_o_changeOf a_o_changeAt a_o_before a_o_behind a_o_tape x_o_taped x_o_here x_o_fault x_o_open x_o_laid a_o_act a_o_with a_o_lineMany a_o_testEnd a_o_lineEnd a_o_facts a_o_pile x_o_hasLaw a_o_way a_o_bestWay x_o_bestMany a_o_wasHad a_o_wasLast x_o_wasAt x_o_wasNight x_o_hasImage x_o_keptLamps x_o_keptAt x_o_keptNight x_o_keptSpent a_o_keptHad a_o_keptTold a_o_keptLast a_o_keptOften x_o_bodies a_o_kind x_o_traces a_o_traced a_o_holds a_o_size a_o_elements a_o_shifted, A_B dA a_o_act 260 x_o_act, A_I dA a_o_pile 130 x_o_pile, A_I dA a_o_with 260 x_o_with, A_I dA a_o_facts 4 x_o_facts] := by
  unfold f_Mo_worked_L45 at hf
  refine g_aload_n (pc' := 46) C 0 d_Mo_worked_45 rfl rfl ?_
  refine g_get (pc' := 49) C kf_Mo 32 mw_4_170 d_Mo_worked_46 rfl 0 rfl (by decide) rfl ?_
  refine g_iload (pc' := 51) C 3 d_Mo_worked_49 rfl rfl ?_
  refine g_iload (pc' := 53) C 5 d_Mo_worked_51 rfl rfl ?_
  refine g_iconst (pc' := 54) (v := 1) C d_Mo_worked_53 rfl rfl ?_
  refine g_icmp_ne (pc' := 57) (tgt := 67) C d_Mo_worked_54 rfl rfl (fun h => ?_) (fun h => ?_)
  · replace hf := g_in h hf
    refine g_aload_n (pc' := 68) C 0 d_Mo_worked_67 rfl rfl ?_
    refine g_get (pc' := 71) C kf_Mo 31 mw_4_169 d_Mo_worked_68 rfl 0 rfl (by decide) rfl ?_
    refine g_aload_n (pc' := 72) C 0 d_Mo_worked_71 rfl rfl ?_
    refine g_get (pc' := 75) C kf_Mo 27 mw_4_165 d_Mo_worked_72 rfl 0 rfl (by decide) rfl ?_
    refine g_iload (pc' := 77) C 4 d_Mo_worked_75 rfl rfl ?_
    have hb := g_ck hf
    replace hf := g_in hb hf
    refine g_iald (pc' := 78) C d_Mo_worked_77 rfl 3 rfl hb ?_
    have hb := g_ck hf
    replace hf := g_in hb hf
    refine g_iald (pc' := 79) C d_Mo_worked_78 rfl 4 rfl hb ?_
    refine g_lv (lv' := [(0, .ref a_o), (1, .int v1), (3, .int v3), (4, .int v4), (5, .int v5)]) [0, 1, 2, 3, 4] rfl ?_
    exact w_Mo_worked_L79 (a_o := a_o) (a_o_had := a_o_had) (a_o_told := a_o_told) (a_o_barred := a_o_barred) (a_o_cost := a_o_cost) (a_o_last := a_o_last) (a_o_often := a_o_often) (a_o_changeOf := a_o_changeOf) (a_o_changeAt := a_o_changeAt) (a_o_before := a_o_before) (a_o_behind := a_o_behind) (a_o_tape := a_o_tape) (a_o_act := a_o_act) (a_o_with := a_o_with) (a_o_lineMany := a_o_lineMany) (a_o_testEnd := a_o_testEnd) (a_o_lineEnd := a_o_lineEnd) (a_o_facts := a_o_facts) (a_o_pile := a_o_pile) (a_o_way := a_o_way) (a_o_bestWay := a_o_bestWay) (a_o_wasHad := a_o_wasHad) (a_o_wasLast := a_o_wasLast) (a_o_keptHad := a_o_keptHad) (a_o_keptTold := a_o_keptTold) (a_o_keptLast := a_o_keptLast) (a_o_keptOften := a_o_keptOften) (a_o_kind := a_o_kind) (a_o_traced := a_o_traced) (a_o_holds := a_o_holds) (a_o_size := a_o_size) (a_o_elements := a_o_elements) (a_o_shifted := a_o_shifted) C  k12 hk12 v1 v3 v4 v5 (x_o_facts (Int32.toNatClampNeg (x_o_with (Int32.toNatClampNeg v5)))) v4 x_o_act x_o_pile x_o_with x_o_facts hf
  · replace hf := g_ip h hf
    refine g_aload_n (pc' := 58) C 0 d_Mo_worked_57 rfl rfl ?_
    refine g_get (pc' := 61) C kf_Mo 27 mw_4_165 d_Mo_worked_58 rfl 0 rfl (by decide) rfl ?_
    refine g_iload (pc' := 63) C 4 d_Mo_worked_61 rfl rfl ?_
    have hb := g_ck hf
    replace hf := g_in hb hf
    refine g_iald (pc' := 64) C d_Mo_worked_63 rfl 3 rfl hb ?_
    refine g_goto (tgt := 79) C d_Mo_worked_64 rfl ?_
    refine g_lv (lv' := [(0, .ref a_o), (1, .int v1), (3, .int v3), (4, .int v4), (5, .int v5)]) [0, 1, 2, 3, 4] rfl ?_
    exact w_Mo_worked_L79 (a_o := a_o) (a_o_had := a_o_had) (a_o_told := a_o_told) (a_o_barred := a_o_barred) (a_o_cost := a_o_cost) (a_o_last := a_o_last) (a_o_often := a_o_often) (a_o_changeOf := a_o_changeOf) (a_o_changeAt := a_o_changeAt) (a_o_before := a_o_before) (a_o_behind := a_o_behind) (a_o_tape := a_o_tape) (a_o_act := a_o_act) (a_o_with := a_o_with) (a_o_lineMany := a_o_lineMany) (a_o_testEnd := a_o_testEnd) (a_o_lineEnd := a_o_lineEnd) (a_o_facts := a_o_facts) (a_o_pile := a_o_pile) (a_o_way := a_o_way) (a_o_bestWay := a_o_bestWay) (a_o_wasHad := a_o_wasHad) (a_o_wasLast := a_o_wasLast) (a_o_keptHad := a_o_keptHad) (a_o_keptTold := a_o_keptTold) (a_o_keptLast := a_o_keptLast) (a_o_keptOften := a_o_keptOften) (a_o_kind := a_o_kind) (a_o_traced := a_o_traced) (a_o_holds := a_o_holds) (a_o_size := a_o_size) (a_o_elements := a_o_elements) (a_o_shifted := a_o_shifted) C  k12 hk12 v1 v3 v4 v5 (x_o_with (Int32.toNatClampNeg v5)) v4 x_o_act x_o_pile x_o_with x_o_facts hf
def f_Mo_worked_L117  (k12 : Int32 → Int32 → Int32 → Int32 → (Nat → Int32) → (Nat → Int32) → (Nat → Int32) → (Nat → Int32) → Option (Int32 × (Nat → Int32))) (v1 : Int32) (v3 : Int32) (v4 : Int32) (v5 : Int32) (s0 : Bool) (s1 : Int32) (x_o_act : Nat → Int32) (x_o_pile : Nat → Int32) (x_o_with : Nat → Int32) (x_o_facts : Nat → Int32) : Option (Int32 × (Nat → Int32)) :=
  if s1 < 0 ∨ 130 ≤ Int32.toNatClampNeg s1 then none else
  f_Mo_worked_L182 k12 v1 v3 v4 v5 x_o_act (upd x_o_pile (Int32.toNatClampNeg s1) (b2i s0)) x_o_with x_o_facts
set_option maxRecDepth 20000 in
theorem w_Mo_worked_L117 {p : Program} {l : Launch} {e : Env} {s : State} {m : MethodId} {args : Array Value} {below : List Frame} {meth : Method} {c : Code} {D : va_G} {dA : Nat → ClassId} {A : Nat → Prop} (C : GC p s m args meth c prog_13_method_40_code 7 "OneLampModel" (some .int) D dA A) {a_o a_o_had a_o_told a_o_barred a_o_cost a_o_last a_o_often a_o_changeOf a_o_changeAt a_o_before a_o_behind a_o_tape a_o_act a_o_with a_o_lineMany a_o_testEnd a_o_lineEnd a_o_facts a_o_pile a_o_way a_o_bestWay a_o_wasHad a_o_wasLast a_o_keptHad a_o_keptTold a_o_keptLast a_o_keptOften a_o_kind a_o_traced a_o_holds a_o_size a_o_elements a_o_shifted : Nat} {x_o_code : Int32} {x_o_lamps : Int32} {x_o_at : Int32} {x_o_night : Int32} {x_o_spent : Int32} {x_o_rest : Int32} {x_o_shy : Int32} {x_o_hasBegun : Bool} {x_o_doneMany : Int32} {x_o_undoneMany : Int32} {x_o_taped : Int32} {x_o_here : Int32} {x_o_fault : Int32} {x_o_open : Int32} {x_o_laid : Int32} {x_o_hasLaw : Bool} {x_o_bestMany : Int32} {x_o_wasAt : Int32} {x_o_wasNight : Int32} {x_o_hasImage : Bool} {x_o_keptLamps : Int32} {x_o_keptAt : Int32} {x_o_keptNight : Int32} {x_o_keptSpent : Int32} {x_o_bodies : Int32} {x_o_traces : Int32} {r0 : Int32} {o_x_o_pile : Nat → Int32}   (k12 : Int32 → Int32 → Int32 → Int32 → (Nat → Int32) → (Nat → Int32) → (Nat → Int32) → (Nat → Int32) → Option (Int32 × (Nat → Int32))) (hk12 : ∀ (v1 : Int32) (v3 : Int32) (v4 : Int32) (v5 : Int32) (x_o_act : Nat → Int32) (x_o_pile : Nat → Int32) (x_o_with : Nat → Int32) (x_o_facts : Nat → Int32), k12 v1 v3 v4 v5 x_o_act x_o_pile x_o_with x_o_facts = some (r0, o_x_o_pile) → GG p l e { frames := 1, cells := 0, slots := 0, locals := 22 } s m args below meth c 7 D A 0 0 (MQ below (cQ D A (some (.int r0)) (fun _ : Unit => [O_Mo a_o x_o_code x_o_lamps x_o_at x_o_night x_o_spent x_o_rest x_o_shy a_o_had a_o_told a_o_barred a_o_cost a_o_last a_o_often x_o_hasBegun x_o_doneMany x_o_undoneMany a_o_changeOf a_o_changeAt a_o_before a_o_behind a_o_tape x_o_taped x_o_here x_o_fault x_o_open x_o_laid a_o_act a_o_with a_o_lineMany a_o_testEnd a_o_lineEnd a_o_facts a_o_pile x_o_hasLaw a_o_way a_o_bestWay x_o_bestMany a_o_wasHad a_o_wasLast x_o_wasAt x_o_wasNight x_o_hasImage x_o_keptLamps x_o_keptAt x_o_keptNight x_o_keptSpent a_o_keptHad a_o_keptTold a_o_keptLast a_o_keptOften x_o_bodies a_o_kind x_o_traces a_o_traced a_o_holds a_o_size a_o_elements a_o_shifted, A_B dA a_o_act 260 x_o_act, A_I dA a_o_pile 130 o_x_o_pile, A_I dA a_o_with 260 x_o_with, A_I dA a_o_facts 4 x_o_facts])) args s 0 0 A) 12 [(0, .ref a_o), (1, .int v1), (3, .int v3), (4, .int v4), (5, .int v5)] [] [O_Mo a_o x_o_code x_o_lamps x_o_at x_o_night x_o_spent x_o_rest x_o_shy a_o_had a_o_told a_o_barred a_o_cost a_o_last a_o_often x_o_hasBegun x_o_doneMany x_o_undoneMany a_o_changeOf a_o_changeAt a_o_before a_o_behind a_o_tape x_o_taped x_o_here x_o_fault x_o_open x_o_laid a_o_act a_o_with a_o_lineMany a_o_testEnd a_o_lineEnd a_o_facts a_o_pile x_o_hasLaw a_o_way a_o_bestWay x_o_bestMany a_o_wasHad a_o_wasLast x_o_wasAt x_o_wasNight x_o_hasImage x_o_keptLamps x_o_keptAt x_o_keptNight x_o_keptSpent a_o_keptHad a_o_keptTold a_o_keptLast a_o_keptOften x_o_bodies a_o_kind x_o_traces a_o_traced a_o_holds a_o_size a_o_elements a_o_shifted, A_B dA a_o_act 260 x_o_act, A_I dA a_o_pile 130 x_o_pile, A_I dA a_o_with 260 x_o_with, A_I dA a_o_facts 4 x_o_facts]) (v1 : Int32) (v3 : Int32) (v4 : Int32) (v5 : Int32) (s0 : Bool) (s1 : Int32) (x_o_act : Nat → Int32) (x_o_pile : Nat → Int32) (x_o_with : Nat → Int32) (x_o_facts : Nat → Int32) (hf : f_Mo_worked_L117  k12 v1 v3 v4 v5 s0 s1 x_o_act x_o_pile x_o_with x_o_facts = some (r0, o_x_o_pile)) : GG p l e { frames := 1, cells := 0, slots := 0, locals := 22 } s m args below meth c 7 D A 0 0 (MQ below (cQ D A (some (.int r0)) (fun _ : Unit => [O_Mo a_o x_o_code x_o_lamps x_o_at x_o_night x_o_spent x_o_rest x_o_shy a_o_had a_o_told a_o_barred a_o_cost a_o_last a_o_often x_o_hasBegun x_o_doneMany x_o_undoneMany a_o_changeOf a_o_changeAt a_o_before a_o_behind a_o_tape x_o_taped x_o_here x_o_fault x_o_open x_o_laid a_o_act a_o_with a_o_lineMany a_o_testEnd a_o_lineEnd a_o_facts a_o_pile x_o_hasLaw a_o_way a_o_bestWay x_o_bestMany a_o_wasHad a_o_wasLast x_o_wasAt x_o_wasNight x_o_hasImage x_o_keptLamps x_o_keptAt x_o_keptNight x_o_keptSpent a_o_keptHad a_o_keptTold a_o_keptLast a_o_keptOften x_o_bodies a_o_kind x_o_traces a_o_traced a_o_holds a_o_size a_o_elements a_o_shifted, A_B dA a_o_act 260 x_o_act, A_I dA a_o_pile 130 o_x_o_pile, A_I dA a_o_with 260 x_o_with, A_I dA a_o_facts 4 x_o_facts])) args s 0 0 A) 117 [(0, .ref a_o), (1, .int v1), (3, .int v3), (4, .int v4), (5, .int v5)] [.int (b2i s0), .int s1, .ref a_o_pile] [O_Mo a_o x_o_code x_o_lamps x_o_at x_o_night x_o_spent x_o_rest x_o_shy a_o_had a_o_told a_o_barred a_o_cost a_o_last a_o_often x_o_hasBegun x_o_doneMany x_o_undoneMany a_o_changeOf a_o_changeAt a_o_before a_o_behind a_o_tape x_o_taped x_o_here x_o_fault x_o_open x_o_laid a_o_act a_o_with a_o_lineMany a_o_testEnd a_o_lineEnd a_o_facts a_o_pile x_o_hasLaw a_o_way a_o_bestWay x_o_bestMany a_o_wasHad a_o_wasLast x_o_wasAt x_o_wasNight x_o_hasImage x_o_keptLamps x_o_keptAt x_o_keptNight x_o_keptSpent a_o_keptHad a_o_keptTold a_o_keptLast a_o_keptOften x_o_bodies a_o_kind x_o_traces a_o_traced a_o_holds a_o_size a_o_elements a_o_shifted, A_B dA a_o_act 260 x_o_act, A_I dA a_o_pile 130 x_o_pile, A_I dA a_o_with 260 x_o_with, A_I dA a_o_facts 4 x_o_facts] := by
  unfold f_Mo_worked_L117 at hf
  have hb := g_ck hf
  replace hf := g_in hb hf
  refine g_iast (pc' := 118) (ws' := [O_Mo a_o x_o_code x_o_lamps x_o_at x_o_night x_o_spent x_o_rest x_o_shy a_o_had a_o_told a_o_barred a_o_cost a_o_last a_o_often x_o_hasBegun x_o_doneMany x_o_undoneMany a_o_changeOf a_o_changeAt a_o_before a_o_behind a_o_tape x_o_taped x_o_here x_o_fault x_o_open x_o_laid a_o_act a_o_with a_o_lineMany a_o_testEnd a_o_lineEnd a_o_facts a_o_pile x_o_hasLaw a_o_way a_o_bestWay x_o_bestMany a_o_wasHad a_o_wasLast x_o_wasAt x_o_wasNight x_o_hasImage x_o_keptLamps x_o_keptAt x_o_keptNight x_o_keptSpent a_o_keptHad a_o_keptTold a_o_keptLast a_o_keptOften x_o_bodies a_o_kind x_o_traces a_o_traced a_o_holds a_o_size a_o_elements a_o_shifted, A_B dA a_o_act 260 x_o_act, A_I dA a_o_pile 130 (upd x_o_pile (Int32.toNatClampNeg s1) (b2i s0)), A_I dA a_o_with 260 x_o_with, A_I dA a_o_facts 4 x_o_facts]) C d_Mo_worked_117 rfl 2 rfl hb rfl ?_
  refine g_goto (tgt := 182) C d_Mo_worked_118 rfl ?_
  exact w_Mo_worked_L182 (a_o := a_o) (a_o_had := a_o_had) (a_o_told := a_o_told) (a_o_barred := a_o_barred) (a_o_cost := a_o_cost) (a_o_last := a_o_last) (a_o_often := a_o_often) (a_o_changeOf := a_o_changeOf) (a_o_changeAt := a_o_changeAt) (a_o_before := a_o_before) (a_o_behind := a_o_behind) (a_o_tape := a_o_tape) (a_o_act := a_o_act) (a_o_with := a_o_with) (a_o_lineMany := a_o_lineMany) (a_o_testEnd := a_o_testEnd) (a_o_lineEnd := a_o_lineEnd) (a_o_facts := a_o_facts) (a_o_pile := a_o_pile) (a_o_way := a_o_way) (a_o_bestWay := a_o_bestWay) (a_o_wasHad := a_o_wasHad) (a_o_wasLast := a_o_wasLast) (a_o_keptHad := a_o_keptHad) (a_o_keptTold := a_o_keptTold) (a_o_keptLast := a_o_keptLast) (a_o_keptOften := a_o_keptOften) (a_o_kind := a_o_kind) (a_o_traced := a_o_traced) (a_o_holds := a_o_holds) (a_o_size := a_o_size) (a_o_elements := a_o_elements) (a_o_shifted := a_o_shifted) C  k12 hk12 v1 v3 v4 v5 x_o_act (upd x_o_pile (Int32.toNatClampNeg s1) (b2i s0)) x_o_with x_o_facts hf
def f_Mo_worked_L12   : Nat → Int32 → Int32 → Int32 → Int32 → (Nat → Int32) → (Nat → Int32) → (Nat → Int32) → (Nat → Int32) → Option (Int32 × (Nat → Int32))
  | 0, _, _, _, _, _, _, _, _ => none
  | n + 1, v1, v3, v4, v5, x_o_act, x_o_pile, x_o_with, x_o_facts =>
    if (((130 : Int32) * v1) + v3) ≤ v5 then
      (some ((x_o_pile (Int32.toNatClampNeg (0 : Int32))), x_o_pile))
    else
      (if v5 < 0 ∨ 260 ≤ Int32.toNatClampNeg v5 then none else
      if (x_o_act (Int32.toNatClampNeg v5)) = (1 : Int32) then
        (f_Mo_worked_L45 (f_Mo_worked_L12  n) v1 v3 v4 v5 (x_o_act (Int32.toNatClampNeg v5)) x_o_act x_o_pile x_o_with x_o_facts)
      else
        (if (x_o_act (Int32.toNatClampNeg v5)) = (2 : Int32) then
          (f_Mo_worked_L45 (f_Mo_worked_L12  n) v1 v3 v4 v5 (x_o_act (Int32.toNatClampNeg v5)) x_o_act x_o_pile x_o_with x_o_facts)
        else
          (if (x_o_act (Int32.toNatClampNeg v5)) = (3 : Int32) then
            (if (v4 - (1 : Int32)) < 0 ∨ 130 ≤ Int32.toNatClampNeg (v4 - (1 : Int32)) then none else
            if (x_o_pile (Int32.toNatClampNeg (v4 - (1 : Int32)))) = 0 then
              (f_Mo_worked_L117 (f_Mo_worked_L12  n) v1 v3 v4 v5 true (v4 - (1 : Int32)) x_o_act x_o_pile x_o_with x_o_facts)
            else
              (f_Mo_worked_L117 (f_Mo_worked_L12  n) v1 v3 v4 v5 false (v4 - (1 : Int32)) x_o_act x_o_pile x_o_with x_o_facts))
          else
            (if (x_o_act (Int32.toNatClampNeg v5)) = (4 : Int32) then
              (if (v4 - (1 : Int32)) < 0 ∨ 130 ≤ Int32.toNatClampNeg (v4 - (1 : Int32)) then none else
              if (v4 - (1 : Int32)) < 0 ∨ 130 ≤ Int32.toNatClampNeg (v4 - (1 : Int32)) then none else
              f_Mo_worked_L182 (f_Mo_worked_L12  n) v1 v3 v4 v5 x_o_act (upd x_o_pile (Int32.toNatClampNeg (v4 - (1 : Int32))) (-(x_o_pile (Int32.toNatClampNeg (v4 - (1 : Int32)))))) x_o_with x_o_facts)
            else
              (if ((v4 + (-1)) - (1 : Int32)) < 0 ∨ 130 ≤ Int32.toNatClampNeg ((v4 + (-1)) - (1 : Int32)) then none else
              if (v4 + (-1)) < 0 ∨ 130 ≤ Int32.toNatClampNeg (v4 + (-1)) then none else
              (f_Mo_twoOf  (x_o_act (Int32.toNatClampNeg v5)) (x_o_pile (Int32.toNatClampNeg ((v4 + (-1)) - (1 : Int32)))) (x_o_pile (Int32.toNatClampNeg (v4 + (-1))))).bind fun r1 =>
              if ((v4 + (-1)) - (1 : Int32)) < 0 ∨ 130 ≤ Int32.toNatClampNeg ((v4 + (-1)) - (1 : Int32)) then none else
              f_Mo_worked_L182 (f_Mo_worked_L12  n) v1 v3 (v4 + (-1)) v5 x_o_act (upd x_o_pile (Int32.toNatClampNeg ((v4 + (-1)) - (1 : Int32))) r1) x_o_with x_o_facts)))))
set_option maxRecDepth 20000 in
theorem w_Mo_worked_L12 {p : Program} {l : Launch} {e : Env} {s : State} {m : MethodId} {args : Array Value} {below : List Frame} {meth : Method} {c : Code} {D : va_G} {dA : Nat → ClassId} {A : Nat → Prop} (C : GC p s m args meth c prog_13_method_40_code 7 "OneLampModel" (some .int) D dA A) {a_o a_o_had a_o_told a_o_barred a_o_cost a_o_last a_o_often a_o_changeOf a_o_changeAt a_o_before a_o_behind a_o_tape a_o_act a_o_with a_o_lineMany a_o_testEnd a_o_lineEnd a_o_facts a_o_pile a_o_way a_o_bestWay a_o_wasHad a_o_wasLast a_o_keptHad a_o_keptTold a_o_keptLast a_o_keptOften a_o_kind a_o_traced a_o_holds a_o_size a_o_elements a_o_shifted : Nat} {x_o_code : Int32} {x_o_lamps : Int32} {x_o_at : Int32} {x_o_night : Int32} {x_o_spent : Int32} {x_o_rest : Int32} {x_o_shy : Int32} {x_o_hasBegun : Bool} {x_o_doneMany : Int32} {x_o_undoneMany : Int32} {x_o_taped : Int32} {x_o_here : Int32} {x_o_fault : Int32} {x_o_open : Int32} {x_o_laid : Int32} {x_o_hasLaw : Bool} {x_o_bestMany : Int32} {x_o_wasAt : Int32} {x_o_wasNight : Int32} {x_o_hasImage : Bool} {x_o_keptLamps : Int32} {x_o_keptAt : Int32} {x_o_keptNight : Int32} {x_o_keptSpent : Int32} {x_o_bodies : Int32} {x_o_traces : Int32} {r0 : Int32} {o_x_o_pile : Nat → Int32}    : ∀ (n : Nat) (v1 : Int32) (v3 : Int32) (v4 : Int32) (v5 : Int32) (x_o_act : Nat → Int32) (x_o_pile : Nat → Int32) (x_o_with : Nat → Int32) (x_o_facts : Nat → Int32), f_Mo_worked_L12   n v1 v3 v4 v5 x_o_act x_o_pile x_o_with x_o_facts = some (r0, o_x_o_pile) → GG p l e { frames := 1, cells := 0, slots := 0, locals := 22 } s m args below meth c 7 D A 0 0 (MQ below (cQ D A (some (.int r0)) (fun _ : Unit => [O_Mo a_o x_o_code x_o_lamps x_o_at x_o_night x_o_spent x_o_rest x_o_shy a_o_had a_o_told a_o_barred a_o_cost a_o_last a_o_often x_o_hasBegun x_o_doneMany x_o_undoneMany a_o_changeOf a_o_changeAt a_o_before a_o_behind a_o_tape x_o_taped x_o_here x_o_fault x_o_open x_o_laid a_o_act a_o_with a_o_lineMany a_o_testEnd a_o_lineEnd a_o_facts a_o_pile x_o_hasLaw a_o_way a_o_bestWay x_o_bestMany a_o_wasHad a_o_wasLast x_o_wasAt x_o_wasNight x_o_hasImage x_o_keptLamps x_o_keptAt x_o_keptNight x_o_keptSpent a_o_keptHad a_o_keptTold a_o_keptLast a_o_keptOften x_o_bodies a_o_kind x_o_traces a_o_traced a_o_holds a_o_size a_o_elements a_o_shifted, A_B dA a_o_act 260 x_o_act, A_I dA a_o_pile 130 o_x_o_pile, A_I dA a_o_with 260 x_o_with, A_I dA a_o_facts 4 x_o_facts])) args s 0 0 A) 12 [(0, .ref a_o), (1, .int v1), (3, .int v3), (4, .int v4), (5, .int v5)] [] [O_Mo a_o x_o_code x_o_lamps x_o_at x_o_night x_o_spent x_o_rest x_o_shy a_o_had a_o_told a_o_barred a_o_cost a_o_last a_o_often x_o_hasBegun x_o_doneMany x_o_undoneMany a_o_changeOf a_o_changeAt a_o_before a_o_behind a_o_tape x_o_taped x_o_here x_o_fault x_o_open x_o_laid a_o_act a_o_with a_o_lineMany a_o_testEnd a_o_lineEnd a_o_facts a_o_pile x_o_hasLaw a_o_way a_o_bestWay x_o_bestMany a_o_wasHad a_o_wasLast x_o_wasAt x_o_wasNight x_o_hasImage x_o_keptLamps x_o_keptAt x_o_keptNight x_o_keptSpent a_o_keptHad a_o_keptTold a_o_keptLast a_o_keptOften x_o_bodies a_o_kind x_o_traces a_o_traced a_o_holds a_o_size a_o_elements a_o_shifted, A_B dA a_o_act 260 x_o_act, A_I dA a_o_pile 130 x_o_pile, A_I dA a_o_with 260 x_o_with, A_I dA a_o_facts 4 x_o_facts] := by
  intro n
  induction n with
  | zero =>
    intro v1 v3 v4 v5 x_o_act x_o_pile x_o_with x_o_facts hf
    cases hf
  | succ n ih =>
    intro v1 v3 v4 v5 x_o_act x_o_pile x_o_with x_o_facts hf
    unfold f_Mo_worked_L12 at hf
    refine g_iload (pc' := 14) C 4 d_Mo_worked_12 rfl rfl ?_
    refine g_sipush (pc' := 17) (v := 130) C d_Mo_worked_14 rfl rfl ?_
    refine g_iload_n (pc' := 18) C 1 d_Mo_worked_17 rfl rfl ?_
    refine g_imul (pc' := 19) C d_Mo_worked_18 rfl ?_
    refine g_iload_n (pc' := 20) C 2 d_Mo_worked_19 rfl rfl ?_
    refine g_iadd (pc' := 21) C d_Mo_worked_20 rfl ?_
    refine g_icmp_ge (pc' := 24) (tgt := 188) C d_Mo_worked_21 rfl rfl (fun h => ?_) (fun h => ?_)
    · replace hf := g_ip h hf
      refine g_aload_n (pc' := 189) C 0 d_Mo_worked_188 rfl rfl ?_
      refine g_get (pc' := 192) C kf_Mo 32 mw_4_170 d_Mo_worked_189 rfl 0 rfl (by decide) rfl ?_
      refine g_iconst (pc' := 193) (v := 0) C d_Mo_worked_192 rfl rfl ?_
      refine g_iald (pc' := 194) C d_Mo_worked_193 rfl 2 rfl (by decide) ?_
      replace hf := g_o2 hf; obtain ⟨h1, hf⟩ := hf; subst h1
      replace hf := Option.some.inj hf; subst hf
      exact g_iret C d_Mo_worked_194 () rfl
    · replace hf := g_in h hf
      refine g_aload_n (pc' := 25) C 0 d_Mo_worked_24 rfl rfl ?_
      refine g_get (pc' := 28) C kf_Mo 26 mw_4_164 d_Mo_worked_25 rfl 0 rfl (by decide) rfl ?_
      refine g_iload (pc' := 30) C 4 d_Mo_worked_28 rfl rfl ?_
      have hb := g_ck hf
      replace hf := g_in hb hf
      refine g_bald (pc' := 31) C d_Mo_worked_30 rfl 1 rfl hb ?_
      refine g_istore (pc' := 33) (lv' := [(6, .int (x_o_act (Int32.toNatClampNeg v5))), (0, .ref a_o), (1, .int v1), (3, .int v3), (4, .int v4), (5, .int v5)]) C d_Mo_worked_31 rfl (by decide) rfl ?_
      refine g_iload (pc' := 35) C 0 d_Mo_worked_33 rfl rfl ?_
      refine g_iconst (pc' := 36) (v := 1) C d_Mo_worked_35 rfl rfl ?_
      refine g_icmp_eq (pc' := 39) (tgt := 45) C d_Mo_worked_36 rfl rfl (fun h => ?_) (fun h => ?_)
      · replace hf := g_ip h hf
        refine g_lv (lv' := [(0, .ref a_o), (1, .int v1), (3, .int v3), (4, .int v4), (5, .int v5), (6, .int (x_o_act (Int32.toNatClampNeg v5)))]) [1, 2, 3, 4, 5, 0] rfl ?_
        exact w_Mo_worked_L45 (a_o := a_o) (a_o_had := a_o_had) (a_o_told := a_o_told) (a_o_barred := a_o_barred) (a_o_cost := a_o_cost) (a_o_last := a_o_last) (a_o_often := a_o_often) (a_o_changeOf := a_o_changeOf) (a_o_changeAt := a_o_changeAt) (a_o_before := a_o_before) (a_o_behind := a_o_behind) (a_o_tape := a_o_tape) (a_o_act := a_o_act) (a_o_with := a_o_with) (a_o_lineMany := a_o_lineMany) (a_o_testEnd := a_o_testEnd) (a_o_lineEnd := a_o_lineEnd) (a_o_facts := a_o_facts) (a_o_pile := a_o_pile) (a_o_way := a_o_way) (a_o_bestWay := a_o_bestWay) (a_o_wasHad := a_o_wasHad) (a_o_wasLast := a_o_wasLast) (a_o_keptHad := a_o_keptHad) (a_o_keptTold := a_o_keptTold) (a_o_keptLast := a_o_keptLast) (a_o_keptOften := a_o_keptOften) (a_o_kind := a_o_kind) (a_o_traced := a_o_traced) (a_o_holds := a_o_holds) (a_o_size := a_o_size) (a_o_elements := a_o_elements) (a_o_shifted := a_o_shifted) C  (f_Mo_worked_L12  n) ih v1 v3 v4 v5 (x_o_act (Int32.toNatClampNeg v5)) x_o_act x_o_pile x_o_with x_o_facts hf
      · replace hf := g_in h hf
        refine g_iload (pc' := 41) C 0 d_Mo_worked_39 rfl rfl ?_
        refine g_iconst (pc' := 42) (v := 2) C d_Mo_worked_41 rfl rfl ?_
        refine g_icmp_ne (pc' := 45) (tgt := 86) C d_Mo_worked_42 rfl rfl (fun h => ?_) (fun h => ?_)
        · replace hf := g_in h hf
          refine g_iload (pc' := 88) C 0 d_Mo_worked_86 rfl rfl ?_
          refine g_iconst (pc' := 89) (v := 3) C d_Mo_worked_88 rfl rfl ?_
          refine g_icmp_ne (pc' := 92) (tgt := 121) C d_Mo_worked_89 rfl rfl (fun h => ?_) (fun h => ?_)
          · replace hf := g_in h hf
            refine g_iload (pc' := 123) C 0 d_Mo_worked_121 rfl rfl ?_
            refine g_iconst (pc' := 124) (v := 4) C d_Mo_worked_123 rfl rfl ?_
            refine g_icmp_ne (pc' := 127) (tgt := 149) C d_Mo_worked_124 rfl rfl (fun h => ?_) (fun h => ?_)
            · replace hf := g_in h hf
              refine g_iinc (pc' := 152) (j := 4) (v := (v4 + (-1))) (lv' := [(4, .int (v4 + (-1))), (6, .int (x_o_act (Int32.toNatClampNeg v5))), (0, .ref a_o), (1, .int v1), (3, .int v3), (5, .int v5)]) C d_Mo_worked_149 rfl rfl rfl (by decide) rfl ?_
              refine g_aload_n (pc' := 153) C 2 d_Mo_worked_152 rfl rfl ?_
              refine g_get (pc' := 156) C kf_Mo 32 mw_4_170 d_Mo_worked_153 rfl 0 rfl (by decide) rfl ?_
              refine g_iload (pc' := 158) C 0 d_Mo_worked_156 rfl rfl ?_
              refine g_iconst (pc' := 159) (v := 1) C d_Mo_worked_158 rfl rfl ?_
              refine g_isub (pc' := 160) C d_Mo_worked_159 rfl ?_
              refine g_iload (pc' := 162) C 1 d_Mo_worked_160 rfl rfl ?_
              refine g_aload_n (pc' := 163) C 2 d_Mo_worked_162 rfl rfl ?_
              refine g_get (pc' := 166) C kf_Mo 32 mw_4_170 d_Mo_worked_163 rfl 0 rfl (by decide) rfl ?_
              refine g_iload (pc' := 168) C 0 d_Mo_worked_166 rfl rfl ?_
              refine g_iconst (pc' := 169) (v := 1) C d_Mo_worked_168 rfl rfl ?_
              refine g_isub (pc' := 170) C d_Mo_worked_169 rfl ?_
              have hb := g_ck hf
              replace hf := g_in hb hf
              refine g_iald (pc' := 171) C d_Mo_worked_170 rfl 2 rfl hb ?_
              refine g_aload_n (pc' := 172) C 2 d_Mo_worked_171 rfl rfl ?_
              refine g_get (pc' := 175) C kf_Mo 32 mw_4_170 d_Mo_worked_172 rfl 0 rfl (by decide) rfl ?_
              refine g_iload (pc' := 177) C 0 d_Mo_worked_175 rfl rfl ?_
              have hb := g_ck hf
              replace hf := g_in hb hf
              refine g_iald (pc' := 178) C d_Mo_worked_177 rfl 2 rfl hb ?_
              replace hf := g_bi hf; obtain ⟨r1, hc2, hf⟩ := hf
              refine g_callS (pc' := 181) (st1 := [.int r1, .int ((v4 + (-1)) - (1 : Int32)), .ref a_o_pile]) (ws1 := [O_Mo a_o x_o_code x_o_lamps x_o_at x_o_night x_o_spent x_o_rest x_o_shy a_o_had a_o_told a_o_barred a_o_cost a_o_last a_o_often x_o_hasBegun x_o_doneMany x_o_undoneMany a_o_changeOf a_o_changeAt a_o_before a_o_behind a_o_tape x_o_taped x_o_here x_o_fault x_o_open x_o_laid a_o_act a_o_with a_o_lineMany a_o_testEnd a_o_lineEnd a_o_facts a_o_pile x_o_hasLaw a_o_way a_o_bestWay x_o_bestMany a_o_wasHad a_o_wasLast x_o_wasAt x_o_wasNight x_o_hasImage x_o_keptLamps x_o_keptAt x_o_keptNight x_o_keptSpent a_o_keptHad a_o_keptTold a_o_keptLast a_o_keptOften x_o_bodies a_o_kind x_o_traces a_o_traced a_o_holds a_o_size a_o_elements a_o_shifted, A_B dA a_o_act 260 x_o_act, A_I dA a_o_pile 130 x_o_pile, A_I dA a_o_with 260 x_o_with, A_I dA a_o_facts 4 x_o_facts]) C (c_Mo_twoOf (l := l) (D := D) (dA := dA)    hc2) yy_Mo_twoOf mw_5_236 d_Mo_worked_178 rfl [.int ((v4 + (-1)) - (1 : Int32)), .ref a_o_pile] rfl rfl (Nat.le_of_ble_eq_true rfl) ⟨Nat.le_of_ble_eq_true rfl, Nat.le_of_ble_eq_true rfl⟩ rfl rfl (Nat.zero_le _) (Nat.zero_le _) [] rfl (by decide +kernel) rfl (g_lay_sel _ _ _ _ [(0, false), (1, false), (2, false), (3, false), (4, false)] (by decide +kernel) rfl (by decide +kernel) rfl rfl) rfl ?_
              have hb := g_ck hf
              replace hf := g_in hb hf
              refine g_iast (pc' := 182) (ws' := [O_Mo a_o x_o_code x_o_lamps x_o_at x_o_night x_o_spent x_o_rest x_o_shy a_o_had a_o_told a_o_barred a_o_cost a_o_last a_o_often x_o_hasBegun x_o_doneMany x_o_undoneMany a_o_changeOf a_o_changeAt a_o_before a_o_behind a_o_tape x_o_taped x_o_here x_o_fault x_o_open x_o_laid a_o_act a_o_with a_o_lineMany a_o_testEnd a_o_lineEnd a_o_facts a_o_pile x_o_hasLaw a_o_way a_o_bestWay x_o_bestMany a_o_wasHad a_o_wasLast x_o_wasAt x_o_wasNight x_o_hasImage x_o_keptLamps x_o_keptAt x_o_keptNight x_o_keptSpent a_o_keptHad a_o_keptTold a_o_keptLast a_o_keptOften x_o_bodies a_o_kind x_o_traces a_o_traced a_o_holds a_o_size a_o_elements a_o_shifted, A_B dA a_o_act 260 x_o_act, A_I dA a_o_pile 130 (upd x_o_pile (Int32.toNatClampNeg ((v4 + (-1)) - (1 : Int32))) r1), A_I dA a_o_with 260 x_o_with, A_I dA a_o_facts 4 x_o_facts]) C d_Mo_worked_181 rfl 2 rfl hb rfl ?_
              refine g_lv (lv' := [(0, .ref a_o), (1, .int v1), (3, .int v3), (4, .int (v4 + (-1))), (5, .int v5)]) [2, 3, 4, 0, 5] rfl ?_
              exact w_Mo_worked_L182 (a_o := a_o) (a_o_had := a_o_had) (a_o_told := a_o_told) (a_o_barred := a_o_barred) (a_o_cost := a_o_cost) (a_o_last := a_o_last) (a_o_often := a_o_often) (a_o_changeOf := a_o_changeOf) (a_o_changeAt := a_o_changeAt) (a_o_before := a_o_before) (a_o_behind := a_o_behind) (a_o_tape := a_o_tape) (a_o_act := a_o_act) (a_o_with := a_o_with) (a_o_lineMany := a_o_lineMany) (a_o_testEnd := a_o_testEnd) (a_o_lineEnd := a_o_lineEnd) (a_o_facts := a_o_facts) (a_o_pile := a_o_pile) (a_o_way := a_o_way) (a_o_bestWay := a_o_bestWay) (a_o_wasHad := a_o_wasHad) (a_o_wasLast := a_o_wasLast) (a_o_keptHad := a_o_keptHad) (a_o_keptTold := a_o_keptTold) (a_o_keptLast := a_o_keptLast) (a_o_keptOften := a_o_keptOften) (a_o_kind := a_o_kind) (a_o_traced := a_o_traced) (a_o_holds := a_o_holds) (a_o_size := a_o_size) (a_o_elements := a_o_elements) (a_o_shifted := a_o_shifted) C  (f_Mo_worked_L12  n) ih v1 v3 (v4 + (-1)) v5 x_o_act (upd x_o_pile (Int32.toNatClampNeg ((v4 + (-1)) - (1 : Int32))) r1) x_o_with x_o_facts hf
            · replace hf := g_ip h hf
              refine g_aload_n (pc' := 128) C 1 d_Mo_worked_127 rfl rfl ?_
              refine g_get (pc' := 131) C kf_Mo 32 mw_4_170 d_Mo_worked_128 rfl 0 rfl (by decide) rfl ?_
              refine g_iload (pc' := 133) C 4 d_Mo_worked_131 rfl rfl ?_
              refine g_iconst (pc' := 134) (v := 1) C d_Mo_worked_133 rfl rfl ?_
              refine g_isub (pc' := 135) C d_Mo_worked_134 rfl ?_
              refine g_aload_n (pc' := 136) C 1 d_Mo_worked_135 rfl rfl ?_
              refine g_get (pc' := 139) C kf_Mo 32 mw_4_170 d_Mo_worked_136 rfl 0 rfl (by decide) rfl ?_
              refine g_iload (pc' := 141) C 4 d_Mo_worked_139 rfl rfl ?_
              refine g_iconst (pc' := 142) (v := 1) C d_Mo_worked_141 rfl rfl ?_
              refine g_isub (pc' := 143) C d_Mo_worked_142 rfl ?_
              have hb := g_ck hf
              replace hf := g_in hb hf
              refine g_iald (pc' := 144) C d_Mo_worked_143 rfl 2 rfl hb ?_
              refine g_ineg (pc' := 145) C d_Mo_worked_144 rfl ?_
              have hb := g_ck hf
              replace hf := g_in hb hf
              refine g_iast (pc' := 146) (ws' := [O_Mo a_o x_o_code x_o_lamps x_o_at x_o_night x_o_spent x_o_rest x_o_shy a_o_had a_o_told a_o_barred a_o_cost a_o_last a_o_often x_o_hasBegun x_o_doneMany x_o_undoneMany a_o_changeOf a_o_changeAt a_o_before a_o_behind a_o_tape x_o_taped x_o_here x_o_fault x_o_open x_o_laid a_o_act a_o_with a_o_lineMany a_o_testEnd a_o_lineEnd a_o_facts a_o_pile x_o_hasLaw a_o_way a_o_bestWay x_o_bestMany a_o_wasHad a_o_wasLast x_o_wasAt x_o_wasNight x_o_hasImage x_o_keptLamps x_o_keptAt x_o_keptNight x_o_keptSpent a_o_keptHad a_o_keptTold a_o_keptLast a_o_keptOften x_o_bodies a_o_kind x_o_traces a_o_traced a_o_holds a_o_size a_o_elements a_o_shifted, A_B dA a_o_act 260 x_o_act, A_I dA a_o_pile 130 (upd x_o_pile (Int32.toNatClampNeg (v4 - (1 : Int32))) (-(x_o_pile (Int32.toNatClampNeg (v4 - (1 : Int32)))))), A_I dA a_o_with 260 x_o_with, A_I dA a_o_facts 4 x_o_facts]) C d_Mo_worked_145 rfl 2 rfl hb rfl ?_
              refine g_goto (tgt := 182) C d_Mo_worked_146 rfl ?_
              refine g_lv (lv' := [(0, .ref a_o), (1, .int v1), (3, .int v3), (4, .int v4), (5, .int v5)]) [1, 2, 3, 4, 5] rfl ?_
              exact w_Mo_worked_L182 (a_o := a_o) (a_o_had := a_o_had) (a_o_told := a_o_told) (a_o_barred := a_o_barred) (a_o_cost := a_o_cost) (a_o_last := a_o_last) (a_o_often := a_o_often) (a_o_changeOf := a_o_changeOf) (a_o_changeAt := a_o_changeAt) (a_o_before := a_o_before) (a_o_behind := a_o_behind) (a_o_tape := a_o_tape) (a_o_act := a_o_act) (a_o_with := a_o_with) (a_o_lineMany := a_o_lineMany) (a_o_testEnd := a_o_testEnd) (a_o_lineEnd := a_o_lineEnd) (a_o_facts := a_o_facts) (a_o_pile := a_o_pile) (a_o_way := a_o_way) (a_o_bestWay := a_o_bestWay) (a_o_wasHad := a_o_wasHad) (a_o_wasLast := a_o_wasLast) (a_o_keptHad := a_o_keptHad) (a_o_keptTold := a_o_keptTold) (a_o_keptLast := a_o_keptLast) (a_o_keptOften := a_o_keptOften) (a_o_kind := a_o_kind) (a_o_traced := a_o_traced) (a_o_holds := a_o_holds) (a_o_size := a_o_size) (a_o_elements := a_o_elements) (a_o_shifted := a_o_shifted) C  (f_Mo_worked_L12  n) ih v1 v3 v4 v5 x_o_act (upd x_o_pile (Int32.toNatClampNeg (v4 - (1 : Int32))) (-(x_o_pile (Int32.toNatClampNeg (v4 - (1 : Int32)))))) x_o_with x_o_facts hf
          · replace hf := g_ip h hf
            refine g_aload_n (pc' := 93) C 1 d_Mo_worked_92 rfl rfl ?_
            refine g_get (pc' := 96) C kf_Mo 32 mw_4_170 d_Mo_worked_93 rfl 0 rfl (by decide) rfl ?_
            refine g_iload (pc' := 98) C 4 d_Mo_worked_96 rfl rfl ?_
            refine g_iconst (pc' := 99) (v := 1) C d_Mo_worked_98 rfl rfl ?_
            refine g_isub (pc' := 100) C d_Mo_worked_99 rfl ?_
            refine g_aload_n (pc' := 101) C 1 d_Mo_worked_100 rfl rfl ?_
            refine g_get (pc' := 104) C kf_Mo 32 mw_4_170 d_Mo_worked_101 rfl 0 rfl (by decide) rfl ?_
            refine g_iload (pc' := 106) C 4 d_Mo_worked_104 rfl rfl ?_
            refine g_iconst (pc' := 107) (v := 1) C d_Mo_worked_106 rfl rfl ?_
            refine g_isub (pc' := 108) C d_Mo_worked_107 rfl ?_
            have hb := g_ck hf
            replace hf := g_in hb hf
            refine g_iald (pc' := 109) C d_Mo_worked_108 rfl 2 rfl hb ?_
            refine g_if_ne (pc' := 112) (tgt := 116) C d_Mo_worked_109 rfl rfl (fun h => ?_) (fun h => ?_)
            · replace hf := g_in h hf
              refine g_iconst (pc' := 117) (v := 0) C d_Mo_worked_116 rfl rfl ?_
              refine g_lv (lv' := [(0, .ref a_o), (1, .int v1), (3, .int v3), (4, .int v4), (5, .int v5)]) [1, 2, 3, 4, 5] rfl ?_
              exact w_Mo_worked_L117 (a_o := a_o) (a_o_had := a_o_had) (a_o_told := a_o_told) (a_o_barred := a_o_barred) (a_o_cost := a_o_cost) (a_o_last := a_o_last) (a_o_often := a_o_often) (a_o_changeOf := a_o_changeOf) (a_o_changeAt := a_o_changeAt) (a_o_before := a_o_before) (a_o_behind := a_o_behind) (a_o_tape := a_o_tape) (a_o_act := a_o_act) (a_o_with := a_o_with) (a_o_lineMany := a_o_lineMany) (a_o_testEnd := a_o_testEnd) (a_o_lineEnd := a_o_lineEnd) (a_o_facts := a_o_facts) (a_o_pile := a_o_pile) (a_o_way := a_o_way) (a_o_bestWay := a_o_bestWay) (a_o_wasHad := a_o_wasHad) (a_o_wasLast := a_o_wasLast) (a_o_keptHad := a_o_keptHad) (a_o_keptTold := a_o_keptTold) (a_o_keptLast := a_o_keptLast) (a_o_keptOften := a_o_keptOften) (a_o_kind := a_o_kind) (a_o_traced := a_o_traced) (a_o_holds := a_o_holds) (a_o_size := a_o_size) (a_o_elements := a_o_elements) (a_o_shifted := a_o_shifted) C  (f_Mo_worked_L12  n) ih v1 v3 v4 v5 false (v4 - (1 : Int32)) x_o_act x_o_pile x_o_with x_o_facts hf
            · replace hf := g_ip h hf
              refine g_iconst (pc' := 113) (v := 1) C d_Mo_worked_112 rfl rfl ?_
              refine g_goto (tgt := 117) C d_Mo_worked_113 rfl ?_
              refine g_lv (lv' := [(0, .ref a_o), (1, .int v1), (3, .int v3), (4, .int v4), (5, .int v5)]) [1, 2, 3, 4, 5] rfl ?_
              exact w_Mo_worked_L117 (a_o := a_o) (a_o_had := a_o_had) (a_o_told := a_o_told) (a_o_barred := a_o_barred) (a_o_cost := a_o_cost) (a_o_last := a_o_last) (a_o_often := a_o_often) (a_o_changeOf := a_o_changeOf) (a_o_changeAt := a_o_changeAt) (a_o_before := a_o_before) (a_o_behind := a_o_behind) (a_o_tape := a_o_tape) (a_o_act := a_o_act) (a_o_with := a_o_with) (a_o_lineMany := a_o_lineMany) (a_o_testEnd := a_o_testEnd) (a_o_lineEnd := a_o_lineEnd) (a_o_facts := a_o_facts) (a_o_pile := a_o_pile) (a_o_way := a_o_way) (a_o_bestWay := a_o_bestWay) (a_o_wasHad := a_o_wasHad) (a_o_wasLast := a_o_wasLast) (a_o_keptHad := a_o_keptHad) (a_o_keptTold := a_o_keptTold) (a_o_keptLast := a_o_keptLast) (a_o_keptOften := a_o_keptOften) (a_o_kind := a_o_kind) (a_o_traced := a_o_traced) (a_o_holds := a_o_holds) (a_o_size := a_o_size) (a_o_elements := a_o_elements) (a_o_shifted := a_o_shifted) C  (f_Mo_worked_L12  n) ih v1 v3 v4 v5 true (v4 - (1 : Int32)) x_o_act x_o_pile x_o_with x_o_facts hf
        · replace hf := g_ip h hf
          refine g_lv (lv' := [(0, .ref a_o), (1, .int v1), (3, .int v3), (4, .int v4), (5, .int v5), (6, .int (x_o_act (Int32.toNatClampNeg v5)))]) [1, 2, 3, 4, 5, 0] rfl ?_
          exact w_Mo_worked_L45 (a_o := a_o) (a_o_had := a_o_had) (a_o_told := a_o_told) (a_o_barred := a_o_barred) (a_o_cost := a_o_cost) (a_o_last := a_o_last) (a_o_often := a_o_often) (a_o_changeOf := a_o_changeOf) (a_o_changeAt := a_o_changeAt) (a_o_before := a_o_before) (a_o_behind := a_o_behind) (a_o_tape := a_o_tape) (a_o_act := a_o_act) (a_o_with := a_o_with) (a_o_lineMany := a_o_lineMany) (a_o_testEnd := a_o_testEnd) (a_o_lineEnd := a_o_lineEnd) (a_o_facts := a_o_facts) (a_o_pile := a_o_pile) (a_o_way := a_o_way) (a_o_bestWay := a_o_bestWay) (a_o_wasHad := a_o_wasHad) (a_o_wasLast := a_o_wasLast) (a_o_keptHad := a_o_keptHad) (a_o_keptTold := a_o_keptTold) (a_o_keptLast := a_o_keptLast) (a_o_keptOften := a_o_keptOften) (a_o_kind := a_o_kind) (a_o_traced := a_o_traced) (a_o_holds := a_o_holds) (a_o_size := a_o_size) (a_o_elements := a_o_elements) (a_o_shifted := a_o_shifted) C  (f_Mo_worked_L12  n) ih v1 v3 v4 v5 (x_o_act (Int32.toNatClampNeg v5)) x_o_act x_o_pile x_o_with x_o_facts hf
def f_Mo_worked  (p1 : Int32) (p2 : Int32) (p3 : Int32) (x_o_act : Nat → Int32) (x_o_pile : Nat → Int32) (x_o_with : Nat → Int32) (x_o_facts : Nat → Int32) : Option (Int32 × (Nat → Int32)) :=
  f_Mo_worked_L12  3000 p1 p3 (0 : Int32) (((130 : Int32) * p1) + p2) x_o_act x_o_pile x_o_with x_o_facts
set_option maxRecDepth 20000 in
theorem c_Mo_worked {l : Launch} {D : va_G} {dA : Nat → ClassId} {a_o a_o_had a_o_told a_o_barred a_o_cost a_o_last a_o_often a_o_changeOf a_o_changeAt a_o_before a_o_behind a_o_tape a_o_act a_o_with a_o_lineMany a_o_testEnd a_o_lineEnd a_o_facts a_o_pile a_o_way a_o_bestWay a_o_wasHad a_o_wasLast a_o_keptHad a_o_keptTold a_o_keptLast a_o_keptOften a_o_kind a_o_traced a_o_holds a_o_size a_o_elements a_o_shifted : Nat} {x_o_code : Int32} {x_o_lamps : Int32} {x_o_at : Int32} {x_o_night : Int32} {x_o_spent : Int32} {x_o_rest : Int32} {x_o_shy : Int32} {x_o_hasBegun : Bool} {x_o_doneMany : Int32} {x_o_undoneMany : Int32} {x_o_taped : Int32} {x_o_here : Int32} {x_o_fault : Int32} {x_o_open : Int32} {x_o_laid : Int32} {x_o_hasLaw : Bool} {x_o_bestMany : Int32} {x_o_wasAt : Int32} {x_o_wasNight : Int32} {x_o_hasImage : Bool} {x_o_keptLamps : Int32} {x_o_keptAt : Int32} {x_o_keptNight : Int32} {x_o_keptSpent : Int32} {x_o_bodies : Int32} {x_o_traces : Int32} {p1 : Int32} {p2 : Int32} {p3 : Int32} {x_o_act : Nat → Int32} {x_o_pile : Nat → Int32} {x_o_with : Nat → Int32} {x_o_facts : Nat → Int32} {r0 : Int32} {o_x_o_pile : Nat → Int32}   (hf : f_Mo_worked  p1 p2 p3 x_o_act x_o_pile x_o_with x_o_facts = some (r0, o_x_o_pile)) : CT l y_Mo_worked prog_13_method_40_code 7 (some .int) { frames := 1, cells := 0, slots := 0, locals := 22 } D dA [.ref a_o, .int p1, .int p2, .int p3] [O_Mo a_o x_o_code x_o_lamps x_o_at x_o_night x_o_spent x_o_rest x_o_shy a_o_had a_o_told a_o_barred a_o_cost a_o_last a_o_often x_o_hasBegun x_o_doneMany x_o_undoneMany a_o_changeOf a_o_changeAt a_o_before a_o_behind a_o_tape x_o_taped x_o_here x_o_fault x_o_open x_o_laid a_o_act a_o_with a_o_lineMany a_o_testEnd a_o_lineEnd a_o_facts a_o_pile x_o_hasLaw a_o_way a_o_bestWay x_o_bestMany a_o_wasHad a_o_wasLast x_o_wasAt x_o_wasNight x_o_hasImage x_o_keptLamps x_o_keptAt x_o_keptNight x_o_keptSpent a_o_keptHad a_o_keptTold a_o_keptLast a_o_keptOften x_o_bodies a_o_kind x_o_traces a_o_traced a_o_holds a_o_size a_o_elements a_o_shifted, A_B dA a_o_act 260 x_o_act, A_I dA a_o_pile 130 x_o_pile, A_I dA a_o_with 260 x_o_with, A_I dA a_o_facts 4 x_o_facts] (some (.int r0)) (fun _ : Unit => [O_Mo a_o x_o_code x_o_lamps x_o_at x_o_night x_o_spent x_o_rest x_o_shy a_o_had a_o_told a_o_barred a_o_cost a_o_last a_o_often x_o_hasBegun x_o_doneMany x_o_undoneMany a_o_changeOf a_o_changeAt a_o_before a_o_behind a_o_tape x_o_taped x_o_here x_o_fault x_o_open x_o_laid a_o_act a_o_with a_o_lineMany a_o_testEnd a_o_lineEnd a_o_facts a_o_pile x_o_hasLaw a_o_way a_o_bestWay x_o_bestMany a_o_wasHad a_o_wasLast x_o_wasAt x_o_wasNight x_o_hasImage x_o_keptLamps x_o_keptAt x_o_keptNight x_o_keptSpent a_o_keptHad a_o_keptTold a_o_keptLast a_o_keptOften x_o_bodies a_o_kind x_o_traces a_o_traced a_o_holds a_o_size a_o_elements a_o_shifted, A_B dA a_o_act 260 x_o_act, A_I dA a_o_pile 130 o_x_o_pile, A_I dA a_o_with 260 x_o_with, A_I dA a_o_facts 4 x_o_facts]) := by
  refine ct_intro "OneLampModel" rfl (by decide +kernel) (Nat.le_of_ble_eq_true rfl) [(0, .ref a_o), (1, .int p1), (2, .int p2), (3, .int p3)] rfl (fun _ C => ?_)
  unfold f_Mo_worked at hf
  refine g_iconst (pc' := 1) (v := 0) C d_Mo_worked_0 rfl rfl ?_
  refine g_istore (pc' := 3) (lv' := [(4, .int 0), (0, .ref a_o), (1, .int p1), (2, .int p2), (3, .int p3)]) C d_Mo_worked_1 rfl (by decide) rfl ?_
  refine g_sipush (pc' := 6) (v := 130) C d_Mo_worked_3 rfl rfl ?_
  refine g_iload_n (pc' := 7) C 2 d_Mo_worked_6 rfl rfl ?_
  refine g_imul (pc' := 8) C d_Mo_worked_7 rfl ?_
  refine g_iload_n (pc' := 9) C 3 d_Mo_worked_8 rfl rfl ?_
  refine g_iadd (pc' := 10) C d_Mo_worked_9 rfl ?_
  refine g_istore (pc' := 12) (lv' := [(5, .int (((130 : Int32) * p1) + p2)), (4, .int 0), (0, .ref a_o), (1, .int p1), (2, .int p2), (3, .int p3)]) C d_Mo_worked_10 rfl (by decide) rfl ?_
  refine g_lv (lv' := [(0, .ref a_o), (1, .int p1), (3, .int p3), (4, .int (0 : Int32)), (5, .int (((130 : Int32) * p1) + p2))]) [2, 3, 5, 1, 0] rfl ?_
  exact w_Mo_worked_L12 (a_o := a_o) (a_o_had := a_o_had) (a_o_told := a_o_told) (a_o_barred := a_o_barred) (a_o_cost := a_o_cost) (a_o_last := a_o_last) (a_o_often := a_o_often) (a_o_changeOf := a_o_changeOf) (a_o_changeAt := a_o_changeAt) (a_o_before := a_o_before) (a_o_behind := a_o_behind) (a_o_tape := a_o_tape) (a_o_act := a_o_act) (a_o_with := a_o_with) (a_o_lineMany := a_o_lineMany) (a_o_testEnd := a_o_testEnd) (a_o_lineEnd := a_o_lineEnd) (a_o_facts := a_o_facts) (a_o_pile := a_o_pile) (a_o_way := a_o_way) (a_o_bestWay := a_o_bestWay) (a_o_wasHad := a_o_wasHad) (a_o_wasLast := a_o_wasLast) (a_o_keptHad := a_o_keptHad) (a_o_keptTold := a_o_keptTold) (a_o_keptLast := a_o_keptLast) (a_o_keptOften := a_o_keptOften) (a_o_kind := a_o_kind) (a_o_traced := a_o_traced) (a_o_holds := a_o_holds) (a_o_size := a_o_size) (a_o_elements := a_o_elements) (a_o_shifted := a_o_shifted) C   3000 p1 p3 (0 : Int32) (((130 : Int32) * p1) + p2) x_o_act x_o_pile x_o_with x_o_facts hf
def y_Mo_gives : MethodName := ⟨"OneLampModel", "gives", "(I)I"⟩
theorem yy_Mo_gives : YV y_Mo_gives prog_13_method_41_code 4 (some .int) 1 := ⟨mw_5_231, mw_1_12, mw_5_230, tm_s (y := y_Mo_gives) (n := 58) (by decide +kernel), by decide +kernel, by decide +kernel, by decide +kernel⟩
theorem d_Mo_gives_0 : decode prog_13_method_41_code 0 = .ok (.iconst 0, 1) := by decide +kernel
theorem d_Mo_gives_1 : decode prog_13_method_41_code 1 = .ok (.istore_n 2, 1) := by decide +kernel
theorem d_Mo_gives_2 : decode prog_13_method_41_code 2 = .ok (.bipush 61, 2) := by decide +kernel
theorem d_Mo_gives_4 : decode prog_13_method_41_code 4 = .ok (.iload_n 1, 1) := by decide +kernel
theorem d_Mo_gives_5 : decode prog_13_method_41_code 5 = .ok (.imul, 1) := by decide +kernel
theorem d_Mo_gives_6 : decode prog_13_method_41_code 6 = .ok (.istore_n 3, 1) := by decide +kernel
theorem d_Mo_gives_7 : decode prog_13_method_41_code 7 = .ok (.iload_n 3, 1) := by decide +kernel
theorem d_Mo_gives_8 : decode prog_13_method_41_code 8 = .ok (.bipush 61, 2) := by decide +kernel
theorem d_Mo_gives_10 : decode prog_13_method_41_code 10 = .ok (.iload_n 1, 1) := by decide +kernel
theorem d_Mo_gives_11 : decode prog_13_method_41_code 11 = .ok (.imul, 1) := by decide +kernel
theorem d_Mo_gives_12 : decode prog_13_method_41_code 12 = .ok (.aload_n 0, 1) := by decide +kernel
theorem d_Mo_gives_13 : decode prog_13_method_41_code 13 = .ok (.getfield 55, 3) := by decide +kernel
theorem d_Mo_gives_16 : decode prog_13_method_41_code 16 = .ok (.iload_n 1, 1) := by decide +kernel
theorem d_Mo_gives_17 : decode prog_13_method_41_code 17 = .ok (.iaload, 1) := by decide +kernel
theorem d_Mo_gives_18 : decode prog_13_method_41_code 18 = .ok (.iadd, 1) := by decide +kernel
theorem d_Mo_gives_19 : decode prog_13_method_41_code 19 = .ok (.if_icmp .ge 59, 3) := by decide +kernel
theorem d_Mo_gives_22 : decode prog_13_method_41_code 22 = .ok (.aload_n 0, 1) := by decide +kernel
theorem d_Mo_gives_23 : decode prog_13_method_41_code 23 = .ok (.getfield 58, 3) := by decide +kernel
theorem d_Mo_gives_26 : decode prog_13_method_41_code 26 = .ok (.iload_n 3, 1) := by decide +kernel
theorem d_Mo_gives_27 : decode prog_13_method_41_code 27 = .ok (.saload, 1) := by decide +kernel
theorem d_Mo_gives_28 : decode prog_13_method_41_code 28 = .ok (.iload_n 2, 1) := by decide +kernel
theorem d_Mo_gives_29 : decode prog_13_method_41_code 29 = .ok (.if_icmp .eq 18, 3) := by decide +kernel
theorem d_Mo_gives_32 : decode prog_13_method_41_code 32 = .ok (.aload_n 0, 1) := by decide +kernel
theorem d_Mo_gives_33 : decode prog_13_method_41_code 33 = .ok (.iload_n 1, 1) := by decide +kernel
theorem d_Mo_gives_34 : decode prog_13_method_41_code 34 = .ok (.iload_n 2, 1) := by decide +kernel
theorem d_Mo_gives_35 : decode prog_13_method_41_code 35 = .ok (.aload_n 0, 1) := by decide +kernel
theorem d_Mo_gives_36 : decode prog_13_method_41_code 36 = .ok (.getfield 58, 3) := by decide +kernel
theorem d_Mo_gives_39 : decode prog_13_method_41_code 39 = .ok (.iload_n 3, 1) := by decide +kernel
theorem d_Mo_gives_40 : decode prog_13_method_41_code 40 = .ok (.saload, 1) := by decide +kernel
theorem d_Mo_gives_41 : decode prog_13_method_41_code 41 = .ok (.invokevirtual 242, 3) := by decide +kernel
theorem d_Mo_gives_44 : decode prog_13_method_41_code 44 = .ok (.ifCond .eq 21, 3) := by decide +kernel
theorem d_Mo_gives_47 : decode prog_13_method_41_code 47 = .ok (.aload_n 0, 1) := by decide +kernel
theorem d_Mo_gives_48 : decode prog_13_method_41_code 48 = .ok (.iload_n 1, 1) := by decide +kernel
theorem d_Mo_gives_49 : decode prog_13_method_41_code 49 = .ok (.aload_n 0, 1) := by decide +kernel
theorem d_Mo_gives_50 : decode prog_13_method_41_code 50 = .ok (.getfield 58, 3) := by decide +kernel
theorem d_Mo_gives_53 : decode prog_13_method_41_code 53 = .ok (.iload_n 3, 1) := by decide +kernel
theorem d_Mo_gives_54 : decode prog_13_method_41_code 54 = .ok (.saload, 1) := by decide +kernel
theorem d_Mo_gives_55 : decode prog_13_method_41_code 55 = .ok (.aload_n 0, 1) := by decide +kernel
theorem d_Mo_gives_56 : decode prog_13_method_41_code 56 = .ok (.getfield 62, 3) := by decide +kernel
theorem d_Mo_gives_59 : decode prog_13_method_41_code 59 = .ok (.iload_n 3, 1) := by decide +kernel
theorem d_Mo_gives_60 : decode prog_13_method_41_code 60 = .ok (.saload, 1) := by decide +kernel
theorem d_Mo_gives_61 : decode prog_13_method_41_code 61 = .ok (.invokevirtual 242, 3) := by decide +kernel
theorem d_Mo_gives_64 : decode prog_13_method_41_code 64 = .ok (.ireturn, 1) := by decide +kernel
theorem d_Mo_gives_65 : decode prog_13_method_41_code 65 = .ok (.aload_n 0, 1) := by decide +kernel
theorem d_Mo_gives_66 : decode prog_13_method_41_code 66 = .ok (.getfield 62, 3) := by decide +kernel
theorem d_Mo_gives_69 : decode prog_13_method_41_code 69 = .ok (.iload_n 3, 1) := by decide +kernel
theorem d_Mo_gives_70 : decode prog_13_method_41_code 70 = .ok (.saload, 1) := by decide +kernel
theorem d_Mo_gives_71 : decode prog_13_method_41_code 71 = .ok (.istore_n 2, 1) := by decide +kernel
theorem d_Mo_gives_72 : decode prog_13_method_41_code 72 = .ok (.iinc 3 1, 3) := by decide +kernel
theorem d_Mo_gives_75 : decode prog_13_method_41_code 75 = .ok (.goto (-68), 3) := by decide +kernel
theorem d_Mo_gives_78 : decode prog_13_method_41_code 78 = .ok (.iconst 0, 1) := by decide +kernel
theorem d_Mo_gives_79 : decode prog_13_method_41_code 79 = .ok (.ireturn, 1) := by decide +kernel
def f_Mo_gives_L47   (v1 : Int32) (v3 : Int32) (x_o_testEnd : Nat → Int32) (x_o_act : Nat → Int32) (x_o_pile : Nat → Int32) (x_o_with : Nat → Int32) (x_o_facts : Nat → Int32) (x_o_lineEnd : Nat → Int32) : Option (Int32 × (Nat → Int32)) :=
  if v3 < 0 ∨ 122 ≤ Int32.toNatClampNeg v3 then none else
  if v3 < 0 ∨ 122 ≤ Int32.toNatClampNeg v3 then none else
  (f_Mo_worked  v1 (x_o_testEnd (Int32.toNatClampNeg v3)) (x_o_lineEnd (Int32.toNatClampNeg v3)) x_o_act x_o_pile x_o_with x_o_facts).bind fun (r4, u5) =>
  some (r4, u5)
set_option maxRecDepth 20000 in
theorem w_Mo_gives_L47 {p : Program} {l : Launch} {e : Env} {s : State} {m : MethodId} {args : Array Value} {below : List Frame} {meth : Method} {c : Code} {D : va_G} {dA : Nat → ClassId} {A : Nat → Prop} (C : GC p s m args meth c prog_13_method_41_code 4 "OneLampModel" (some .int) D dA A) {a_o a_o_had a_o_told a_o_barred a_o_cost a_o_last a_o_often a_o_changeOf a_o_changeAt a_o_before a_o_behind a_o_tape a_o_act a_o_with a_o_lineMany a_o_testEnd a_o_lineEnd a_o_facts a_o_pile a_o_way a_o_bestWay a_o_wasHad a_o_wasLast a_o_keptHad a_o_keptTold a_o_keptLast a_o_keptOften a_o_kind a_o_traced a_o_holds a_o_size a_o_elements a_o_shifted : Nat} {x_o_code : Int32} {x_o_lamps : Int32} {x_o_at : Int32} {x_o_night : Int32} {x_o_spent : Int32} {x_o_rest : Int32} {x_o_shy : Int32} {x_o_hasBegun : Bool} {x_o_doneMany : Int32} {x_o_undoneMany : Int32} {x_o_taped : Int32} {x_o_here : Int32} {x_o_fault : Int32} {x_o_open : Int32} {x_o_laid : Int32} {x_o_hasLaw : Bool} {x_o_bestMany : Int32} {x_o_wasAt : Int32} {x_o_wasNight : Int32} {x_o_hasImage : Bool} {x_o_keptLamps : Int32} {x_o_keptAt : Int32} {x_o_keptNight : Int32} {x_o_keptSpent : Int32} {x_o_bodies : Int32} {x_o_traces : Int32} {x_o_lineMany : Nat → Int32} {r0 : Int32} {o_x_o_pile : Nat → Int32}    (v1 : Int32) (v3 : Int32) (x_o_testEnd : Nat → Int32) (x_o_act : Nat → Int32) (x_o_pile : Nat → Int32) (x_o_with : Nat → Int32) (x_o_facts : Nat → Int32) (x_o_lineEnd : Nat → Int32) (hf : f_Mo_gives_L47   v1 v3 x_o_testEnd x_o_act x_o_pile x_o_with x_o_facts x_o_lineEnd = some (r0, o_x_o_pile)) : GG p l e { frames := 2, cells := 0, slots := 0, locals := 48 } s m args below meth c 4 D A 0 0 (MQ below (cQ D A (some (.int r0)) (fun _ : Unit => [O_Mo a_o x_o_code x_o_lamps x_o_at x_o_night x_o_spent x_o_rest x_o_shy a_o_had a_o_told a_o_barred a_o_cost a_o_last a_o_often x_o_hasBegun x_o_doneMany x_o_undoneMany a_o_changeOf a_o_changeAt a_o_before a_o_behind a_o_tape x_o_taped x_o_here x_o_fault x_o_open x_o_laid a_o_act a_o_with a_o_lineMany a_o_testEnd a_o_lineEnd a_o_facts a_o_pile x_o_hasLaw a_o_way a_o_bestWay x_o_bestMany a_o_wasHad a_o_wasLast x_o_wasAt x_o_wasNight x_o_hasImage x_o_keptLamps x_o_keptAt x_o_keptNight x_o_keptSpent a_o_keptHad a_o_keptTold a_o_keptLast a_o_keptOften x_o_bodies a_o_kind x_o_traces a_o_traced a_o_holds a_o_size a_o_elements a_o_shifted, A_I dA a_o_lineMany 2 x_o_lineMany, A_S dA a_o_testEnd 122 x_o_testEnd, A_B dA a_o_act 260 x_o_act, A_I dA a_o_pile 130 o_x_o_pile, A_I dA a_o_with 260 x_o_with, A_I dA a_o_facts 4 x_o_facts, A_S dA a_o_lineEnd 122 x_o_lineEnd])) args s 0 0 A) 47 [(0, .ref a_o), (1, .int v1), (3, .int v3)] [] [O_Mo a_o x_o_code x_o_lamps x_o_at x_o_night x_o_spent x_o_rest x_o_shy a_o_had a_o_told a_o_barred a_o_cost a_o_last a_o_often x_o_hasBegun x_o_doneMany x_o_undoneMany a_o_changeOf a_o_changeAt a_o_before a_o_behind a_o_tape x_o_taped x_o_here x_o_fault x_o_open x_o_laid a_o_act a_o_with a_o_lineMany a_o_testEnd a_o_lineEnd a_o_facts a_o_pile x_o_hasLaw a_o_way a_o_bestWay x_o_bestMany a_o_wasHad a_o_wasLast x_o_wasAt x_o_wasNight x_o_hasImage x_o_keptLamps x_o_keptAt x_o_keptNight x_o_keptSpent a_o_keptHad a_o_keptTold a_o_keptLast a_o_keptOften x_o_bodies a_o_kind x_o_traces a_o_traced a_o_holds a_o_size a_o_elements a_o_shifted, A_I dA a_o_lineMany 2 x_o_lineMany, A_S dA a_o_testEnd 122 x_o_testEnd, A_B dA a_o_act 260 x_o_act, A_I dA a_o_pile 130 x_o_pile, A_I dA a_o_with 260 x_o_with, A_I dA a_o_facts 4 x_o_facts, A_S dA a_o_lineEnd 122 x_o_lineEnd] := by
  unfold f_Mo_gives_L47 at hf
  refine g_aload_n (pc' := 48) C 0 d_Mo_gives_47 rfl rfl ?_
  refine g_iload_n (pc' := 49) C 1 d_Mo_gives_48 rfl rfl ?_
  refine g_aload_n (pc' := 50) C 0 d_Mo_gives_49 rfl rfl ?_
  refine g_get (pc' := 53) C kf_Mo 29 mw_4_167 d_Mo_gives_50 rfl 0 rfl (by decide) rfl ?_
  refine g_iload_n (pc' := 54) C 2 d_Mo_gives_53 rfl rfl ?_
  have hb := g_ck hf
  replace hf := g_in hb hf
  refine g_sald (pc' := 55) C d_Mo_gives_54 rfl 2 rfl hb ?_
  refine g_aload_n (pc' := 56) C 0 d_Mo_gives_55 rfl rfl ?_
  refine g_get (pc' := 59) C kf_Mo 30 mw_4_168 d_Mo_gives_56 rfl 0 rfl (by decide) rfl ?_
  refine g_iload_n (pc' := 60) C 2 d_Mo_gives_59 rfl rfl ?_
  have hb := g_ck hf
  replace hf := g_in hb hf
  refine g_sald (pc' := 61) C d_Mo_gives_60 rfl 7 rfl hb ?_
  replace hf := g_bi hf; obtain ⟨⟨r4, u5⟩, hc6, hf⟩ := hf
  dsimp only at hf
  refine g_callV (pc' := 64) (st1 := [.int r4]) (ws1 := [O_Mo a_o x_o_code x_o_lamps x_o_at x_o_night x_o_spent x_o_rest x_o_shy a_o_had a_o_told a_o_barred a_o_cost a_o_last a_o_often x_o_hasBegun x_o_doneMany x_o_undoneMany a_o_changeOf a_o_changeAt a_o_before a_o_behind a_o_tape x_o_taped x_o_here x_o_fault x_o_open x_o_laid a_o_act a_o_with a_o_lineMany a_o_testEnd a_o_lineEnd a_o_facts a_o_pile x_o_hasLaw a_o_way a_o_bestWay x_o_bestMany a_o_wasHad a_o_wasLast x_o_wasAt x_o_wasNight x_o_hasImage x_o_keptLamps x_o_keptAt x_o_keptNight x_o_keptSpent a_o_keptHad a_o_keptTold a_o_keptLast a_o_keptOften x_o_bodies a_o_kind x_o_traces a_o_traced a_o_holds a_o_size a_o_elements a_o_shifted, A_I dA a_o_lineMany 2 x_o_lineMany, A_S dA a_o_testEnd 122 x_o_testEnd, A_B dA a_o_act 260 x_o_act, A_I dA a_o_pile 130 u5, A_I dA a_o_with 260 x_o_with, A_I dA a_o_facts 4 x_o_facts, A_S dA a_o_lineEnd 122 x_o_lineEnd]) C (c_Mo_worked (l := l) (D := D) (dA := dA) (a_o := a_o) (a_o_had := a_o_had) (a_o_told := a_o_told) (a_o_barred := a_o_barred) (a_o_cost := a_o_cost) (a_o_last := a_o_last) (a_o_often := a_o_often) (a_o_changeOf := a_o_changeOf) (a_o_changeAt := a_o_changeAt) (a_o_before := a_o_before) (a_o_behind := a_o_behind) (a_o_tape := a_o_tape) (a_o_act := a_o_act) (a_o_with := a_o_with) (a_o_lineMany := a_o_lineMany) (a_o_testEnd := a_o_testEnd) (a_o_lineEnd := a_o_lineEnd) (a_o_facts := a_o_facts) (a_o_pile := a_o_pile) (a_o_way := a_o_way) (a_o_bestWay := a_o_bestWay) (a_o_wasHad := a_o_wasHad) (a_o_wasLast := a_o_wasLast) (a_o_keptHad := a_o_keptHad) (a_o_keptTold := a_o_keptTold) (a_o_keptLast := a_o_keptLast) (a_o_keptOften := a_o_keptOften) (a_o_kind := a_o_kind) (a_o_traced := a_o_traced) (a_o_holds := a_o_holds) (a_o_size := a_o_size) (a_o_elements := a_o_elements) (a_o_shifted := a_o_shifted) (x_o_code := x_o_code) (x_o_lamps := x_o_lamps) (x_o_at := x_o_at) (x_o_night := x_o_night) (x_o_spent := x_o_spent) (x_o_rest := x_o_rest) (x_o_shy := x_o_shy) (x_o_hasBegun := x_o_hasBegun) (x_o_doneMany := x_o_doneMany) (x_o_undoneMany := x_o_undoneMany) (x_o_taped := x_o_taped) (x_o_here := x_o_here) (x_o_fault := x_o_fault) (x_o_open := x_o_open) (x_o_laid := x_o_laid) (x_o_hasLaw := x_o_hasLaw) (x_o_bestMany := x_o_bestMany) (x_o_wasAt := x_o_wasAt) (x_o_wasNight := x_o_wasNight) (x_o_hasImage := x_o_hasImage) (x_o_keptLamps := x_o_keptLamps) (x_o_keptAt := x_o_keptAt) (x_o_keptNight := x_o_keptNight) (x_o_keptSpent := x_o_keptSpent) (x_o_bodies := x_o_bodies) (x_o_traces := x_o_traces)   hc6) yy_Mo_worked kf_Mo rfl mw_5_232 d_Mo_gives_61 rfl [] rfl rfl (Nat.le_of_ble_eq_true rfl) ⟨Nat.le_of_ble_eq_true rfl, Nat.le_of_ble_eq_true rfl⟩ rfl rfl (Nat.zero_le _) (Nat.zero_le _) 0 rfl [0, 3, 4, 5, 6] rfl (by decide +kernel) rfl (g_lay_sel _ _ _ _ [(0, true), (1, false), (2, false), (1, true), (2, true), (3, true), (4, true), (7, false)] (by decide +kernel) rfl (by decide +kernel) rfl rfl) rfl ?_
  replace hf := g_o2 hf; obtain ⟨h1, hf⟩ := hf; subst h1
  replace hf := Option.some.inj hf; subst hf
  exact g_iret C d_Mo_gives_64 () rfl
def f_Mo_gives_L7   : Nat → Int32 → Int32 → Int32 → (Nat → Int32) → (Nat → Int32) → (Nat → Int32) → (Nat → Int32) → (Nat → Int32) → (Nat → Int32) → (Nat → Int32) → Option (Int32 × (Nat → Int32))
  | 0, _, _, _, _, _, _, _, _, _, _ => none
  | n + 1, v1, v2, v3, x_o_lineMany, x_o_testEnd, x_o_act, x_o_pile, x_o_with, x_o_facts, x_o_lineEnd =>
    if v1 < 0 ∨ 2 ≤ Int32.toNatClampNeg v1 then none else
    if (((61 : Int32) * v1) + (x_o_lineMany (Int32.toNatClampNeg v1))) ≤ v3 then
      (some ((0 : Int32), x_o_pile))
    else
      (if v3 < 0 ∨ 122 ≤ Int32.toNatClampNeg v3 then none else
      if (x_o_testEnd (Int32.toNatClampNeg v3)) = v2 then
        (f_Mo_gives_L47  v1 v3 x_o_testEnd x_o_act x_o_pile x_o_with x_o_facts x_o_lineEnd)
      else
        (if v3 < 0 ∨ 122 ≤ Int32.toNatClampNeg v3 then none else
        (f_Mo_worked  v1 v2 (x_o_testEnd (Int32.toNatClampNeg v3)) x_o_act x_o_pile x_o_with x_o_facts).bind fun (r1, u2) =>
        if r1 = 0 then
          (if v3 < 0 ∨ 122 ≤ Int32.toNatClampNeg v3 then none else
          f_Mo_gives_L7  n v1 (x_o_lineEnd (Int32.toNatClampNeg v3)) (v3 + 1) x_o_lineMany x_o_testEnd x_o_act u2 x_o_with x_o_facts x_o_lineEnd)
        else
          (f_Mo_gives_L47  v1 v3 x_o_testEnd x_o_act u2 x_o_with x_o_facts x_o_lineEnd)))
set_option maxRecDepth 20000 in
theorem w_Mo_gives_L7 {p : Program} {l : Launch} {e : Env} {s : State} {m : MethodId} {args : Array Value} {below : List Frame} {meth : Method} {c : Code} {D : va_G} {dA : Nat → ClassId} {A : Nat → Prop} (C : GC p s m args meth c prog_13_method_41_code 4 "OneLampModel" (some .int) D dA A) {a_o a_o_had a_o_told a_o_barred a_o_cost a_o_last a_o_often a_o_changeOf a_o_changeAt a_o_before a_o_behind a_o_tape a_o_act a_o_with a_o_lineMany a_o_testEnd a_o_lineEnd a_o_facts a_o_pile a_o_way a_o_bestWay a_o_wasHad a_o_wasLast a_o_keptHad a_o_keptTold a_o_keptLast a_o_keptOften a_o_kind a_o_traced a_o_holds a_o_size a_o_elements a_o_shifted : Nat} {x_o_code : Int32} {x_o_lamps : Int32} {x_o_at : Int32} {x_o_night : Int32} {x_o_spent : Int32} {x_o_rest : Int32} {x_o_shy : Int32} {x_o_hasBegun : Bool} {x_o_doneMany : Int32} {x_o_undoneMany : Int32} {x_o_taped : Int32} {x_o_here : Int32} {x_o_fault : Int32} {x_o_open : Int32} {x_o_laid : Int32} {x_o_hasLaw : Bool} {x_o_bestMany : Int32} {x_o_wasAt : Int32} {x_o_wasNight : Int32} {x_o_hasImage : Bool} {x_o_keptLamps : Int32} {x_o_keptAt : Int32} {x_o_keptNight : Int32} {x_o_keptSpent : Int32} {x_o_bodies : Int32} {x_o_traces : Int32} {r0 : Int32} {o_x_o_pile : Nat → Int32}    : ∀ (n : Nat) (v1 : Int32) (v2 : Int32) (v3 : Int32) (x_o_lineMany : Nat → Int32) (x_o_testEnd : Nat → Int32) (x_o_act : Nat → Int32) (x_o_pile : Nat → Int32) (x_o_with : Nat → Int32) (x_o_facts : Nat → Int32) (x_o_lineEnd : Nat → Int32), f_Mo_gives_L7   n v1 v2 v3 x_o_lineMany x_o_testEnd x_o_act x_o_pile x_o_with x_o_facts x_o_lineEnd = some (r0, o_x_o_pile) → GG p l e { frames := 2, cells := 0, slots := 0, locals := 48 } s m args below meth c 4 D A 0 0 (MQ below (cQ D A (some (.int r0)) (fun _ : Unit => [O_Mo a_o x_o_code x_o_lamps x_o_at x_o_night x_o_spent x_o_rest x_o_shy a_o_had a_o_told a_o_barred a_o_cost a_o_last a_o_often x_o_hasBegun x_o_doneMany x_o_undoneMany a_o_changeOf a_o_changeAt a_o_before a_o_behind a_o_tape x_o_taped x_o_here x_o_fault x_o_open x_o_laid a_o_act a_o_with a_o_lineMany a_o_testEnd a_o_lineEnd a_o_facts a_o_pile x_o_hasLaw a_o_way a_o_bestWay x_o_bestMany a_o_wasHad a_o_wasLast x_o_wasAt x_o_wasNight x_o_hasImage x_o_keptLamps x_o_keptAt x_o_keptNight x_o_keptSpent a_o_keptHad a_o_keptTold a_o_keptLast a_o_keptOften x_o_bodies a_o_kind x_o_traces a_o_traced a_o_holds a_o_size a_o_elements a_o_shifted, A_I dA a_o_lineMany 2 x_o_lineMany, A_S dA a_o_testEnd 122 x_o_testEnd, A_B dA a_o_act 260 x_o_act, A_I dA a_o_pile 130 o_x_o_pile, A_I dA a_o_with 260 x_o_with, A_I dA a_o_facts 4 x_o_facts, A_S dA a_o_lineEnd 122 x_o_lineEnd])) args s 0 0 A) 7 [(0, .ref a_o), (1, .int v1), (2, .int v2), (3, .int v3)] [] [O_Mo a_o x_o_code x_o_lamps x_o_at x_o_night x_o_spent x_o_rest x_o_shy a_o_had a_o_told a_o_barred a_o_cost a_o_last a_o_often x_o_hasBegun x_o_doneMany x_o_undoneMany a_o_changeOf a_o_changeAt a_o_before a_o_behind a_o_tape x_o_taped x_o_here x_o_fault x_o_open x_o_laid a_o_act a_o_with a_o_lineMany a_o_testEnd a_o_lineEnd a_o_facts a_o_pile x_o_hasLaw a_o_way a_o_bestWay x_o_bestMany a_o_wasHad a_o_wasLast x_o_wasAt x_o_wasNight x_o_hasImage x_o_keptLamps x_o_keptAt x_o_keptNight x_o_keptSpent a_o_keptHad a_o_keptTold a_o_keptLast a_o_keptOften x_o_bodies a_o_kind x_o_traces a_o_traced a_o_holds a_o_size a_o_elements a_o_shifted, A_I dA a_o_lineMany 2 x_o_lineMany, A_S dA a_o_testEnd 122 x_o_testEnd, A_B dA a_o_act 260 x_o_act, A_I dA a_o_pile 130 x_o_pile, A_I dA a_o_with 260 x_o_with, A_I dA a_o_facts 4 x_o_facts, A_S dA a_o_lineEnd 122 x_o_lineEnd] := by
  intro n
  induction n with
  | zero =>
    intro v1 v2 v3 x_o_lineMany x_o_testEnd x_o_act x_o_pile x_o_with x_o_facts x_o_lineEnd hf
    cases hf
  | succ n ih =>
    intro v1 v2 v3 x_o_lineMany x_o_testEnd x_o_act x_o_pile x_o_with x_o_facts x_o_lineEnd hf
    unfold f_Mo_gives_L7 at hf
    refine g_iload_n (pc' := 8) C 3 d_Mo_gives_7 rfl rfl ?_
    refine g_bipush (pc' := 10) (v := 61) C d_Mo_gives_8 rfl rfl ?_
    refine g_iload_n (pc' := 11) C 1 d_Mo_gives_10 rfl rfl ?_
    refine g_imul (pc' := 12) C d_Mo_gives_11 rfl ?_
    refine g_aload_n (pc' := 13) C 0 d_Mo_gives_12 rfl rfl ?_
    refine g_get (pc' := 16) C kf_Mo 28 mw_4_166 d_Mo_gives_13 rfl 0 rfl (by decide) rfl ?_
    refine g_iload_n (pc' := 17) C 1 d_Mo_gives_16 rfl rfl ?_
    have hb := g_ck hf
    replace hf := g_in hb hf
    refine g_iald (pc' := 18) C d_Mo_gives_17 rfl 1 rfl hb ?_
    refine g_iadd (pc' := 19) C d_Mo_gives_18 rfl ?_
    refine g_icmp_ge (pc' := 22) (tgt := 78) C d_Mo_gives_19 rfl rfl (fun h => ?_) (fun h => ?_)
    · replace hf := g_ip h hf
      refine g_iconst (pc' := 79) (v := 0) C d_Mo_gives_78 rfl rfl ?_
      replace hf := g_o2 hf; obtain ⟨h1, hf⟩ := hf; subst h1
      replace hf := Option.some.inj hf; subst hf
      exact g_iret C d_Mo_gives_79 () rfl
    · replace hf := g_in h hf
      refine g_aload_n (pc' := 23) C 0 d_Mo_gives_22 rfl rfl ?_
      refine g_get (pc' := 26) C kf_Mo 29 mw_4_167 d_Mo_gives_23 rfl 0 rfl (by decide) rfl ?_
      refine g_iload_n (pc' := 27) C 3 d_Mo_gives_26 rfl rfl ?_
      have hb := g_ck hf
      replace hf := g_in hb hf
      refine g_sald (pc' := 28) C d_Mo_gives_27 rfl 2 rfl hb ?_
      refine g_iload_n (pc' := 29) C 2 d_Mo_gives_28 rfl rfl ?_
      refine g_icmp_eq (pc' := 32) (tgt := 47) C d_Mo_gives_29 rfl rfl (fun h => ?_) (fun h => ?_)
      · replace hf := g_ip h hf
        refine g_lv (lv' := [(0, .ref a_o), (1, .int v1), (3, .int v3)]) [0, 1, 3] rfl ?_
        exact w_Mo_gives_L47 (a_o := a_o) (a_o_had := a_o_had) (a_o_told := a_o_told) (a_o_barred := a_o_barred) (a_o_cost := a_o_cost) (a_o_last := a_o_last) (a_o_often := a_o_often) (a_o_changeOf := a_o_changeOf) (a_o_changeAt := a_o_changeAt) (a_o_before := a_o_before) (a_o_behind := a_o_behind) (a_o_tape := a_o_tape) (a_o_act := a_o_act) (a_o_with := a_o_with) (a_o_lineMany := a_o_lineMany) (a_o_testEnd := a_o_testEnd) (a_o_lineEnd := a_o_lineEnd) (a_o_facts := a_o_facts) (a_o_pile := a_o_pile) (a_o_way := a_o_way) (a_o_bestWay := a_o_bestWay) (a_o_wasHad := a_o_wasHad) (a_o_wasLast := a_o_wasLast) (a_o_keptHad := a_o_keptHad) (a_o_keptTold := a_o_keptTold) (a_o_keptLast := a_o_keptLast) (a_o_keptOften := a_o_keptOften) (a_o_kind := a_o_kind) (a_o_traced := a_o_traced) (a_o_holds := a_o_holds) (a_o_size := a_o_size) (a_o_elements := a_o_elements) (a_o_shifted := a_o_shifted) C   v1 v3 x_o_testEnd x_o_act x_o_pile x_o_with x_o_facts x_o_lineEnd hf
      · replace hf := g_in h hf
        refine g_aload_n (pc' := 33) C 0 d_Mo_gives_32 rfl rfl ?_
        refine g_iload_n (pc' := 34) C 1 d_Mo_gives_33 rfl rfl ?_
        refine g_iload_n (pc' := 35) C 2 d_Mo_gives_34 rfl rfl ?_
        refine g_aload_n (pc' := 36) C 0 d_Mo_gives_35 rfl rfl ?_
        refine g_get (pc' := 39) C kf_Mo 29 mw_4_167 d_Mo_gives_36 rfl 0 rfl (by decide) rfl ?_
        refine g_iload_n (pc' := 40) C 3 d_Mo_gives_39 rfl rfl ?_
        have hb := g_ck hf
        replace hf := g_in hb hf
        refine g_sald (pc' := 41) C d_Mo_gives_40 rfl 2 rfl hb ?_
        replace hf := g_bi hf; obtain ⟨⟨r1, u2⟩, hc3, hf⟩ := hf
        dsimp only at hf
        refine g_callV (pc' := 44) (st1 := [.int r1]) (ws1 := [O_Mo a_o x_o_code x_o_lamps x_o_at x_o_night x_o_spent x_o_rest x_o_shy a_o_had a_o_told a_o_barred a_o_cost a_o_last a_o_often x_o_hasBegun x_o_doneMany x_o_undoneMany a_o_changeOf a_o_changeAt a_o_before a_o_behind a_o_tape x_o_taped x_o_here x_o_fault x_o_open x_o_laid a_o_act a_o_with a_o_lineMany a_o_testEnd a_o_lineEnd a_o_facts a_o_pile x_o_hasLaw a_o_way a_o_bestWay x_o_bestMany a_o_wasHad a_o_wasLast x_o_wasAt x_o_wasNight x_o_hasImage x_o_keptLamps x_o_keptAt x_o_keptNight x_o_keptSpent a_o_keptHad a_o_keptTold a_o_keptLast a_o_keptOften x_o_bodies a_o_kind x_o_traces a_o_traced a_o_holds a_o_size a_o_elements a_o_shifted, A_I dA a_o_lineMany 2 x_o_lineMany, A_S dA a_o_testEnd 122 x_o_testEnd, A_B dA a_o_act 260 x_o_act, A_I dA a_o_pile 130 u2, A_I dA a_o_with 260 x_o_with, A_I dA a_o_facts 4 x_o_facts, A_S dA a_o_lineEnd 122 x_o_lineEnd]) C (c_Mo_worked (l := l) (D := D) (dA := dA) (a_o := a_o) (a_o_had := a_o_had) (a_o_told := a_o_told) (a_o_barred := a_o_barred) (a_o_cost := a_o_cost) (a_o_last := a_o_last) (a_o_often := a_o_often) (a_o_changeOf := a_o_changeOf) (a_o_changeAt := a_o_changeAt) (a_o_before := a_o_before) (a_o_behind := a_o_behind) (a_o_tape := a_o_tape) (a_o_act := a_o_act) (a_o_with := a_o_with) (a_o_lineMany := a_o_lineMany) (a_o_testEnd := a_o_testEnd) (a_o_lineEnd := a_o_lineEnd) (a_o_facts := a_o_facts) (a_o_pile := a_o_pile) (a_o_way := a_o_way) (a_o_bestWay := a_o_bestWay) (a_o_wasHad := a_o_wasHad) (a_o_wasLast := a_o_wasLast) (a_o_keptHad := a_o_keptHad) (a_o_keptTold := a_o_keptTold) (a_o_keptLast := a_o_keptLast) (a_o_keptOften := a_o_keptOften) (a_o_kind := a_o_kind) (a_o_traced := a_o_traced) (a_o_holds := a_o_holds) (a_o_size := a_o_size) (a_o_elements := a_o_elements) (a_o_shifted := a_o_shifted) (x_o_code := x_o_code) (x_o_lamps := x_o_lamps) (x_o_at := x_o_at) (x_o_night := x_o_night) (x_o_spent := x_o_spent) (x_o_rest := x_o_rest) (x_o_shy := x_o_shy) (x_o_hasBegun := x_o_hasBegun) (x_o_doneMany := x_o_doneMany) (x_o_undoneMany := x_o_undoneMany) (x_o_taped := x_o_taped) (x_o_here := x_o_here) (x_o_fault := x_o_fault) (x_o_open := x_o_open) (x_o_laid := x_o_laid) (x_o_hasLaw := x_o_hasLaw) (x_o_bestMany := x_o_bestMany) (x_o_wasAt := x_o_wasAt) (x_o_wasNight := x_o_wasNight) (x_o_hasImage := x_o_hasImage) (x_o_keptLamps := x_o_keptLamps) (x_o_keptAt := x_o_keptAt) (x_o_keptNight := x_o_keptNight) (x_o_keptSpent := x_o_keptSpent) (x_o_bodies := x_o_bodies) (x_o_traces := x_o_traces)   hc3) yy_Mo_worked kf_Mo rfl mw_5_232 d_Mo_gives_41 rfl [] rfl rfl (Nat.le_of_ble_eq_true rfl) ⟨Nat.le_of_ble_eq_true rfl, Nat.le_of_ble_eq_true rfl⟩ rfl rfl (Nat.zero_le _) (Nat.zero_le _) 0 rfl [0, 3, 4, 5, 6] rfl (by decide +kernel) rfl (g_lay_sel _ _ _ _ [(0, true), (1, false), (2, false), (1, true), (2, true), (3, true), (4, true), (7, false)] (by decide +kernel) rfl (by decide +kernel) rfl rfl) rfl ?_
        refine g_if_eq (pc' := 47) (tgt := 65) C d_Mo_gives_44 rfl rfl (fun h => ?_) (fun h => ?_)
        · replace hf := g_ip h hf
          refine g_aload_n (pc' := 66) C 0 d_Mo_gives_65 rfl rfl ?_
          refine g_get (pc' := 69) C kf_Mo 30 mw_4_168 d_Mo_gives_66 rfl 0 rfl (by decide) rfl ?_
          refine g_iload_n (pc' := 70) C 3 d_Mo_gives_69 rfl rfl ?_
          have hb := g_ck hf
          replace hf := g_in hb hf
          refine g_sald (pc' := 71) C d_Mo_gives_70 rfl 7 rfl hb ?_
          refine g_istore_n (pc' := 72) (lv' := [(2, .int (x_o_lineEnd (Int32.toNatClampNeg v3))), (0, .ref a_o), (1, .int v1), (3, .int v3)]) C d_Mo_gives_71 rfl (by decide) rfl ?_
          refine g_iinc (pc' := 75) (j := 3) (v := (v3 + 1)) (lv' := [(3, .int (v3 + 1)), (2, .int (x_o_lineEnd (Int32.toNatClampNeg v3))), (0, .ref a_o), (1, .int v1)]) C d_Mo_gives_72 rfl rfl rfl (by decide) rfl ?_
          refine g_goto (tgt := 7) C d_Mo_gives_75 rfl ?_
          refine g_lv (lv' := [(0, .ref a_o), (1, .int v1), (2, .int (x_o_lineEnd (Int32.toNatClampNeg v3))), (3, .int (v3 + 1))]) [2, 3, 1, 0] rfl ?_
          exact ih v1 (x_o_lineEnd (Int32.toNatClampNeg v3)) (v3 + 1) x_o_lineMany x_o_testEnd x_o_act u2 x_o_with x_o_facts x_o_lineEnd hf
        · replace hf := g_in h hf
          refine g_lv (lv' := [(0, .ref a_o), (1, .int v1), (3, .int v3)]) [0, 1, 3] rfl ?_
          exact w_Mo_gives_L47 (a_o := a_o) (a_o_had := a_o_had) (a_o_told := a_o_told) (a_o_barred := a_o_barred) (a_o_cost := a_o_cost) (a_o_last := a_o_last) (a_o_often := a_o_often) (a_o_changeOf := a_o_changeOf) (a_o_changeAt := a_o_changeAt) (a_o_before := a_o_before) (a_o_behind := a_o_behind) (a_o_tape := a_o_tape) (a_o_act := a_o_act) (a_o_with := a_o_with) (a_o_lineMany := a_o_lineMany) (a_o_testEnd := a_o_testEnd) (a_o_lineEnd := a_o_lineEnd) (a_o_facts := a_o_facts) (a_o_pile := a_o_pile) (a_o_way := a_o_way) (a_o_bestWay := a_o_bestWay) (a_o_wasHad := a_o_wasHad) (a_o_wasLast := a_o_wasLast) (a_o_keptHad := a_o_keptHad) (a_o_keptTold := a_o_keptTold) (a_o_keptLast := a_o_keptLast) (a_o_keptOften := a_o_keptOften) (a_o_kind := a_o_kind) (a_o_traced := a_o_traced) (a_o_holds := a_o_holds) (a_o_size := a_o_size) (a_o_elements := a_o_elements) (a_o_shifted := a_o_shifted) C   v1 v3 x_o_testEnd x_o_act u2 x_o_with x_o_facts x_o_lineEnd hf
def f_Mo_gives  (p1 : Int32) (x_o_lineMany : Nat → Int32) (x_o_testEnd : Nat → Int32) (x_o_act : Nat → Int32) (x_o_pile : Nat → Int32) (x_o_with : Nat → Int32) (x_o_facts : Nat → Int32) (x_o_lineEnd : Nat → Int32) : Option (Int32 × (Nat → Int32)) :=
  f_Mo_gives_L7  3000 p1 (0 : Int32) ((61 : Int32) * p1) x_o_lineMany x_o_testEnd x_o_act x_o_pile x_o_with x_o_facts x_o_lineEnd
set_option maxRecDepth 20000 in
theorem c_Mo_gives {l : Launch} {D : va_G} {dA : Nat → ClassId} {a_o a_o_had a_o_told a_o_barred a_o_cost a_o_last a_o_often a_o_changeOf a_o_changeAt a_o_before a_o_behind a_o_tape a_o_act a_o_with a_o_lineMany a_o_testEnd a_o_lineEnd a_o_facts a_o_pile a_o_way a_o_bestWay a_o_wasHad a_o_wasLast a_o_keptHad a_o_keptTold a_o_keptLast a_o_keptOften a_o_kind a_o_traced a_o_holds a_o_size a_o_elements a_o_shifted : Nat} {x_o_code : Int32} {x_o_lamps : Int32} {x_o_at : Int32} {x_o_night : Int32} {x_o_spent : Int32} {x_o_rest : Int32} {x_o_shy : Int32} {x_o_hasBegun : Bool} {x_o_doneMany : Int32} {x_o_undoneMany : Int32} {x_o_taped : Int32} {x_o_here : Int32} {x_o_fault : Int32} {x_o_open : Int32} {x_o_laid : Int32} {x_o_hasLaw : Bool} {x_o_bestMany : Int32} {x_o_wasAt : Int32} {x_o_wasNight : Int32} {x_o_hasImage : Bool} {x_o_keptLamps : Int32} {x_o_keptAt : Int32} {x_o_keptNight : Int32} {x_o_keptSpent : Int32} {x_o_bodies : Int32} {x_o_traces : Int32} {p1 : Int32} {x_o_lineMany : Nat → Int32} {x_o_testEnd : Nat → Int32} {x_o_act : Nat → Int32} {x_o_pile : Nat → Int32} {x_o_with : Nat → Int32} {x_o_facts : Nat → Int32} {x_o_lineEnd : Nat → Int32} {r0 : Int32} {o_x_o_pile : Nat → Int32}   (hf : f_Mo_gives  p1 x_o_lineMany x_o_testEnd x_o_act x_o_pile x_o_with x_o_facts x_o_lineEnd = some (r0, o_x_o_pile)) : CT l y_Mo_gives prog_13_method_41_code 4 (some .int) { frames := 2, cells := 0, slots := 0, locals := 48 } D dA [.ref a_o, .int p1] [O_Mo a_o x_o_code x_o_lamps x_o_at x_o_night x_o_spent x_o_rest x_o_shy a_o_had a_o_told a_o_barred a_o_cost a_o_last a_o_often x_o_hasBegun x_o_doneMany x_o_undoneMany a_o_changeOf a_o_changeAt a_o_before a_o_behind a_o_tape x_o_taped x_o_here x_o_fault x_o_open x_o_laid a_o_act a_o_with a_o_lineMany a_o_testEnd a_o_lineEnd a_o_facts a_o_pile x_o_hasLaw a_o_way a_o_bestWay x_o_bestMany a_o_wasHad a_o_wasLast x_o_wasAt x_o_wasNight x_o_hasImage x_o_keptLamps x_o_keptAt x_o_keptNight x_o_keptSpent a_o_keptHad a_o_keptTold a_o_keptLast a_o_keptOften x_o_bodies a_o_kind x_o_traces a_o_traced a_o_holds a_o_size a_o_elements a_o_shifted, A_I dA a_o_lineMany 2 x_o_lineMany, A_S dA a_o_testEnd 122 x_o_testEnd, A_B dA a_o_act 260 x_o_act, A_I dA a_o_pile 130 x_o_pile, A_I dA a_o_with 260 x_o_with, A_I dA a_o_facts 4 x_o_facts, A_S dA a_o_lineEnd 122 x_o_lineEnd] (some (.int r0)) (fun _ : Unit => [O_Mo a_o x_o_code x_o_lamps x_o_at x_o_night x_o_spent x_o_rest x_o_shy a_o_had a_o_told a_o_barred a_o_cost a_o_last a_o_often x_o_hasBegun x_o_doneMany x_o_undoneMany a_o_changeOf a_o_changeAt a_o_before a_o_behind a_o_tape x_o_taped x_o_here x_o_fault x_o_open x_o_laid a_o_act a_o_with a_o_lineMany a_o_testEnd a_o_lineEnd a_o_facts a_o_pile x_o_hasLaw a_o_way a_o_bestWay x_o_bestMany a_o_wasHad a_o_wasLast x_o_wasAt x_o_wasNight x_o_hasImage x_o_keptLamps x_o_keptAt x_o_keptNight x_o_keptSpent a_o_keptHad a_o_keptTold a_o_keptLast a_o_keptOften x_o_bodies a_o_kind x_o_traces a_o_traced a_o_holds a_o_size a_o_elements a_o_shifted, A_I dA a_o_lineMany 2 x_o_lineMany, A_S dA a_o_testEnd 122 x_o_testEnd, A_B dA a_o_act 260 x_o_act, A_I dA a_o_pile 130 o_x_o_pile, A_I dA a_o_with 260 x_o_with, A_I dA a_o_facts 4 x_o_facts, A_S dA a_o_lineEnd 122 x_o_lineEnd]) := by
  refine ct_intro "OneLampModel" rfl (by decide +kernel) (Nat.le_of_ble_eq_true rfl) [(0, .ref a_o), (1, .int p1)] rfl (fun _ C => ?_)
  unfold f_Mo_gives at hf
  refine g_iconst (pc' := 1) (v := 0) C d_Mo_gives_0 rfl rfl ?_
  refine g_istore_n (pc' := 2) (lv' := [(2, .int 0), (0, .ref a_o), (1, .int p1)]) C d_Mo_gives_1 rfl (by decide) rfl ?_
  refine g_bipush (pc' := 4) (v := 61) C d_Mo_gives_2 rfl rfl ?_
  refine g_iload_n (pc' := 5) C 2 d_Mo_gives_4 rfl rfl ?_
  refine g_imul (pc' := 6) C d_Mo_gives_5 rfl ?_
  refine g_istore_n (pc' := 7) (lv' := [(3, .int ((61 : Int32) * p1)), (2, .int 0), (0, .ref a_o), (1, .int p1)]) C d_Mo_gives_6 rfl (by decide) rfl ?_
  refine g_lv (lv' := [(0, .ref a_o), (1, .int p1), (2, .int (0 : Int32)), (3, .int ((61 : Int32) * p1))]) [2, 3, 1, 0] rfl ?_
  exact w_Mo_gives_L7 (a_o := a_o) (a_o_had := a_o_had) (a_o_told := a_o_told) (a_o_barred := a_o_barred) (a_o_cost := a_o_cost) (a_o_last := a_o_last) (a_o_often := a_o_often) (a_o_changeOf := a_o_changeOf) (a_o_changeAt := a_o_changeAt) (a_o_before := a_o_before) (a_o_behind := a_o_behind) (a_o_tape := a_o_tape) (a_o_act := a_o_act) (a_o_with := a_o_with) (a_o_lineMany := a_o_lineMany) (a_o_testEnd := a_o_testEnd) (a_o_lineEnd := a_o_lineEnd) (a_o_facts := a_o_facts) (a_o_pile := a_o_pile) (a_o_way := a_o_way) (a_o_bestWay := a_o_bestWay) (a_o_wasHad := a_o_wasHad) (a_o_wasLast := a_o_wasLast) (a_o_keptHad := a_o_keptHad) (a_o_keptTold := a_o_keptTold) (a_o_keptLast := a_o_keptLast) (a_o_keptOften := a_o_keptOften) (a_o_kind := a_o_kind) (a_o_traced := a_o_traced) (a_o_holds := a_o_holds) (a_o_size := a_o_size) (a_o_elements := a_o_elements) (a_o_shifted := a_o_shifted) C   3000 p1 (0 : Int32) ((61 : Int32) * p1) x_o_lineMany x_o_testEnd x_o_act x_o_pile x_o_with x_o_facts x_o_lineEnd hf
def y_Mo_law : MethodName := ⟨"OneLampModel", "law", "()I"⟩
theorem yy_Mo_law : YV y_Mo_law prog_13_method_42_code 2 (some .int) 0 := ⟨mw_5_161, mw_1_12, mw_5_159, mw_5_160, by decide +kernel, by decide +kernel, by decide +kernel⟩
theorem d_Mo_law_0 : decode prog_13_method_42_code 0 = .ok (.aload_n 0, 1) := by decide +kernel
theorem d_Mo_law_1 : decode prog_13_method_42_code 1 = .ok (.iconst 0, 1) := by decide +kernel
theorem d_Mo_law_2 : decode prog_13_method_42_code 2 = .ok (.invokevirtual 245, 3) := by decide +kernel
theorem d_Mo_law_5 : decode prog_13_method_42_code 5 = .ok (.istore_n 1, 1) := by decide +kernel
theorem d_Mo_law_6 : decode prog_13_method_42_code 6 = .ok (.iload_n 1, 1) := by decide +kernel
theorem d_Mo_law_7 : decode prog_13_method_42_code 7 = .ok (.ifCond .lt 8, 3) := by decide +kernel
theorem d_Mo_law_10 : decode prog_13_method_42_code 10 = .ok (.bipush (-100), 2) := by decide +kernel
theorem d_Mo_law_12 : decode prog_13_method_42_code 12 = .ok (.iload_n 1, 1) := by decide +kernel
theorem d_Mo_law_13 : decode prog_13_method_42_code 13 = .ok (.isub, 1) := by decide +kernel
theorem d_Mo_law_14 : decode prog_13_method_42_code 14 = .ok (.ireturn, 1) := by decide +kernel
theorem d_Mo_law_15 : decode prog_13_method_42_code 15 = .ok (.aload_n 0, 1) := by decide +kernel
theorem d_Mo_law_16 : decode prog_13_method_42_code 16 = .ok (.iconst 1, 1) := by decide +kernel
theorem d_Mo_law_17 : decode prog_13_method_42_code 17 = .ok (.putfield 248, 3) := by decide +kernel
theorem d_Mo_law_20 : decode prog_13_method_42_code 20 = .ok (.iconst 1, 1) := by decide +kernel
theorem d_Mo_law_21 : decode prog_13_method_42_code 21 = .ok (.ireturn, 1) := by decide +kernel
def f_Mo_law  (x_o_taped : Int32) (x_o_here : Int32) (x_o_fault : Int32) (x_o_open : Int32) (x_o_laid : Int32) (x_o_hasLaw : Bool) (x_o_lineMany : Nat → Int32) (x_o_testEnd : Nat → Int32) (x_o_tape : Nat → Int32) (x_o_act : Nat → Int32) (x_o_with : Nat → Int32) (x_o_lineEnd : Nat → Int32) : Option (Int32 × Int32 × Int32 × Int32 × Int32 × Int32 × Bool × (Nat → Int32) × (Nat → Int32) × (Nat → Int32) × (Nat → Int32) × (Nat → Int32)) :=
  (f_Mo_readText  (0 : Int32) x_o_taped x_o_here x_o_fault x_o_open x_o_laid x_o_lineMany x_o_testEnd x_o_tape x_o_act x_o_with x_o_lineEnd).bind fun (r1, u2, u3, u4, u5, u6, u7, u8, u9, u10, u11) =>
  if r1 < 0 then
    (some ((1 : Int32), u2, u3, u4, u5, u6, true, u7, u8, u9, u10, u11))
  else
    (some (((-100 : Int32) - r1), u2, u3, u4, u5, u6, x_o_hasLaw, u7, u8, u9, u10, u11))
set_option maxRecDepth 20000 in
theorem c_Mo_law {l : Launch} {D : va_G} {dA : Nat → ClassId} {a_o a_o_had a_o_told a_o_barred a_o_cost a_o_last a_o_often a_o_changeOf a_o_changeAt a_o_before a_o_behind a_o_tape a_o_act a_o_with a_o_lineMany a_o_testEnd a_o_lineEnd a_o_facts a_o_pile a_o_way a_o_bestWay a_o_wasHad a_o_wasLast a_o_keptHad a_o_keptTold a_o_keptLast a_o_keptOften a_o_kind a_o_traced a_o_holds a_o_size a_o_elements a_o_shifted : Nat} {x_o_code : Int32} {x_o_lamps : Int32} {x_o_at : Int32} {x_o_night : Int32} {x_o_spent : Int32} {x_o_rest : Int32} {x_o_shy : Int32} {x_o_hasBegun : Bool} {x_o_doneMany : Int32} {x_o_undoneMany : Int32} {x_o_bestMany : Int32} {x_o_wasAt : Int32} {x_o_wasNight : Int32} {x_o_hasImage : Bool} {x_o_keptLamps : Int32} {x_o_keptAt : Int32} {x_o_keptNight : Int32} {x_o_keptSpent : Int32} {x_o_bodies : Int32} {x_o_traces : Int32} {x_o_taped : Int32} {x_o_here : Int32} {x_o_fault : Int32} {x_o_open : Int32} {x_o_laid : Int32} {x_o_hasLaw : Bool} {x_o_lineMany : Nat → Int32} {x_o_testEnd : Nat → Int32} {x_o_tape : Nat → Int32} {x_o_act : Nat → Int32} {x_o_with : Nat → Int32} {x_o_lineEnd : Nat → Int32} {r0 : Int32} {o_x_o_taped : Int32} {o_x_o_here : Int32} {o_x_o_fault : Int32} {o_x_o_open : Int32} {o_x_o_laid : Int32} {o_x_o_hasLaw : Bool} {o_x_o_lineMany : Nat → Int32} {o_x_o_testEnd : Nat → Int32} {o_x_o_act : Nat → Int32} {o_x_o_with : Nat → Int32} {o_x_o_lineEnd : Nat → Int32}   (hf : f_Mo_law  x_o_taped x_o_here x_o_fault x_o_open x_o_laid x_o_hasLaw x_o_lineMany x_o_testEnd x_o_tape x_o_act x_o_with x_o_lineEnd = some (r0, o_x_o_taped, o_x_o_here, o_x_o_fault, o_x_o_open, o_x_o_laid, o_x_o_hasLaw, o_x_o_lineMany, o_x_o_testEnd, o_x_o_act, o_x_o_with, o_x_o_lineEnd)) : CT l y_Mo_law prog_13_method_42_code 2 (some .int) { frames := 62, cells := 0, slots := 0, locals := 1293 } D dA [.ref a_o] [O_Mo a_o x_o_code x_o_lamps x_o_at x_o_night x_o_spent x_o_rest x_o_shy a_o_had a_o_told a_o_barred a_o_cost a_o_last a_o_often x_o_hasBegun x_o_doneMany x_o_undoneMany a_o_changeOf a_o_changeAt a_o_before a_o_behind a_o_tape x_o_taped x_o_here x_o_fault x_o_open x_o_laid a_o_act a_o_with a_o_lineMany a_o_testEnd a_o_lineEnd a_o_facts a_o_pile x_o_hasLaw a_o_way a_o_bestWay x_o_bestMany a_o_wasHad a_o_wasLast x_o_wasAt x_o_wasNight x_o_hasImage x_o_keptLamps x_o_keptAt x_o_keptNight x_o_keptSpent a_o_keptHad a_o_keptTold a_o_keptLast a_o_keptOften x_o_bodies a_o_kind x_o_traces a_o_traced a_o_holds a_o_size a_o_elements a_o_shifted, A_I dA a_o_lineMany 2 x_o_lineMany, A_S dA a_o_testEnd 122 x_o_testEnd, A_B dA a_o_tape 120 x_o_tape, A_B dA a_o_act 260 x_o_act, A_I dA a_o_with 260 x_o_with, A_S dA a_o_lineEnd 122 x_o_lineEnd] (some (.int r0)) (fun _ : Unit => [O_Mo a_o x_o_code x_o_lamps x_o_at x_o_night x_o_spent x_o_rest x_o_shy a_o_had a_o_told a_o_barred a_o_cost a_o_last a_o_often x_o_hasBegun x_o_doneMany x_o_undoneMany a_o_changeOf a_o_changeAt a_o_before a_o_behind a_o_tape o_x_o_taped o_x_o_here o_x_o_fault o_x_o_open o_x_o_laid a_o_act a_o_with a_o_lineMany a_o_testEnd a_o_lineEnd a_o_facts a_o_pile o_x_o_hasLaw a_o_way a_o_bestWay x_o_bestMany a_o_wasHad a_o_wasLast x_o_wasAt x_o_wasNight x_o_hasImage x_o_keptLamps x_o_keptAt x_o_keptNight x_o_keptSpent a_o_keptHad a_o_keptTold a_o_keptLast a_o_keptOften x_o_bodies a_o_kind x_o_traces a_o_traced a_o_holds a_o_size a_o_elements a_o_shifted, A_I dA a_o_lineMany 2 o_x_o_lineMany, A_S dA a_o_testEnd 122 o_x_o_testEnd, A_B dA a_o_tape 120 x_o_tape, A_B dA a_o_act 260 o_x_o_act, A_I dA a_o_with 260 o_x_o_with, A_S dA a_o_lineEnd 122 o_x_o_lineEnd]) := by
  refine ct_intro "OneLampModel" rfl (by decide +kernel) (Nat.le_of_ble_eq_true rfl) [(0, .ref a_o)] rfl (fun _ C => ?_)
  unfold f_Mo_law at hf
  refine g_aload_n (pc' := 1) C 0 d_Mo_law_0 rfl rfl ?_
  refine g_iconst (pc' := 2) (v := 0) C d_Mo_law_1 rfl rfl ?_
  replace hf := g_bi hf; obtain ⟨⟨r1, u2, u3, u4, u5, u6, u7, u8, u9, u10, u11⟩, hc12, hf⟩ := hf
  dsimp only at hf
  refine g_callV (pc' := 5) (st1 := [.int r1]) (ws1 := [O_Mo a_o x_o_code x_o_lamps x_o_at x_o_night x_o_spent x_o_rest x_o_shy a_o_had a_o_told a_o_barred a_o_cost a_o_last a_o_often x_o_hasBegun x_o_doneMany x_o_undoneMany a_o_changeOf a_o_changeAt a_o_before a_o_behind a_o_tape u2 u3 u4 u5 u6 a_o_act a_o_with a_o_lineMany a_o_testEnd a_o_lineEnd a_o_facts a_o_pile x_o_hasLaw a_o_way a_o_bestWay x_o_bestMany a_o_wasHad a_o_wasLast x_o_wasAt x_o_wasNight x_o_hasImage x_o_keptLamps x_o_keptAt x_o_keptNight x_o_keptSpent a_o_keptHad a_o_keptTold a_o_keptLast a_o_keptOften x_o_bodies a_o_kind x_o_traces a_o_traced a_o_holds a_o_size a_o_elements a_o_shifted, A_I dA a_o_lineMany 2 u7, A_S dA a_o_testEnd 122 u8, A_B dA a_o_tape 120 x_o_tape, A_B dA a_o_act 260 u9, A_I dA a_o_with 260 u10, A_S dA a_o_lineEnd 122 u11]) C (c_Mo_readText (l := l) (D := D) (dA := dA) (a_o := a_o) (a_o_had := a_o_had) (a_o_told := a_o_told) (a_o_barred := a_o_barred) (a_o_cost := a_o_cost) (a_o_last := a_o_last) (a_o_often := a_o_often) (a_o_changeOf := a_o_changeOf) (a_o_changeAt := a_o_changeAt) (a_o_before := a_o_before) (a_o_behind := a_o_behind) (a_o_tape := a_o_tape) (a_o_act := a_o_act) (a_o_with := a_o_with) (a_o_lineMany := a_o_lineMany) (a_o_testEnd := a_o_testEnd) (a_o_lineEnd := a_o_lineEnd) (a_o_facts := a_o_facts) (a_o_pile := a_o_pile) (a_o_way := a_o_way) (a_o_bestWay := a_o_bestWay) (a_o_wasHad := a_o_wasHad) (a_o_wasLast := a_o_wasLast) (a_o_keptHad := a_o_keptHad) (a_o_keptTold := a_o_keptTold) (a_o_keptLast := a_o_keptLast) (a_o_keptOften := a_o_keptOften) (a_o_kind := a_o_kind) (a_o_traced := a_o_traced) (a_o_holds := a_o_holds) (a_o_size := a_o_size) (a_o_elements := a_o_elements) (a_o_shifted := a_o_shifted) (x_o_code := x_o_code) (x_o_lamps := x_o_lamps) (x_o_at := x_o_at) (x_o_night := x_o_night) (x_o_spent := x_o_spent) (x_o_rest := x_o_rest) (x_o_shy := x_o_shy) (x_o_hasBegun := x_o_hasBegun) (x_o_doneMany := x_o_doneMany) (x_o_undoneMany := x_o_undoneMany) (x_o_hasLaw := x_o_hasLaw) (x_o_bestMany := x_o_bestMany) (x_o_wasAt := x_o_wasAt) (x_o_wasNight := x_o_wasNight) (x_o_hasImage := x_o_hasImage) (x_o_keptLamps := x_o_keptLamps) (x_o_keptAt := x_o_keptAt) (x_o_keptNight := x_o_keptNight) (x_o_keptSpent := x_o_keptSpent) (x_o_bodies := x_o_bodies) (x_o_traces := x_o_traces)   hc12) yy_Mo_readText kf_Mo rfl mw_5_162 d_Mo_law_2 rfl [] rfl rfl (Nat.le_of_ble_eq_true rfl) ⟨Nat.le_of_ble_eq_true rfl, Nat.le_of_ble_eq_true rfl⟩ rfl rfl (Nat.zero_le _) (Nat.zero_le _) 0 rfl [0, 1, 2, 3, 4, 5, 6] rfl (by decide +kernel) rfl (g_lay_sel _ _ _ _ [(0, true), (1, true), (2, true), (3, true), (4, true), (5, true), (6, true)] (by decide +kernel) rfl (by decide +kernel) rfl rfl) rfl ?_
  refine g_istore_n (pc' := 6) (lv' := [(1, .int r1), (0, .ref a_o)]) C d_Mo_law_5 rfl (by decide) rfl ?_
  refine g_iload_n (pc' := 7) C 0 d_Mo_law_6 rfl rfl ?_
  refine g_if_lt (pc' := 10) (tgt := 15) C d_Mo_law_7 rfl rfl (fun h => ?_) (fun h => ?_)
  · replace hf := g_ip h hf
    refine g_aload_n (pc' := 16) C 1 d_Mo_law_15 rfl rfl ?_
    refine g_iconst (pc' := 17) (v := 1) C d_Mo_law_16 rfl rfl ?_
    refine g_put (pc' := 20) (ws' := [O_Mo a_o x_o_code x_o_lamps x_o_at x_o_night x_o_spent x_o_rest x_o_shy a_o_had a_o_told a_o_barred a_o_cost a_o_last a_o_often x_o_hasBegun x_o_doneMany x_o_undoneMany a_o_changeOf a_o_changeAt a_o_before a_o_behind a_o_tape u2 u3 u4 u5 u6 a_o_act a_o_with a_o_lineMany a_o_testEnd a_o_lineEnd a_o_facts a_o_pile true a_o_way a_o_bestWay x_o_bestMany a_o_wasHad a_o_wasLast x_o_wasAt x_o_wasNight x_o_hasImage x_o_keptLamps x_o_keptAt x_o_keptNight x_o_keptSpent a_o_keptHad a_o_keptTold a_o_keptLast a_o_keptOften x_o_bodies a_o_kind x_o_traces a_o_traced a_o_holds a_o_size a_o_elements a_o_shifted, A_I dA a_o_lineMany 2 u7, A_S dA a_o_testEnd 122 u8, A_B dA a_o_tape 120 x_o_tape, A_B dA a_o_act 260 u9, A_I dA a_o_with 260 u10, A_S dA a_o_lineEnd 122 u11]) C kf_Mo 33 mw_4_171 d_Mo_law_17 rfl 0 rfl (by decide) rfl rfl rfl (Nat.le_of_ble_eq_true rfl) rfl ?_
    refine g_iconst (pc' := 21) (v := 1) C d_Mo_law_20 rfl rfl ?_
    replace hf := g_o2 hf; obtain ⟨h1, hf⟩ := hf; subst h1
    replace hf := g_o2 hf; obtain ⟨h1, hf⟩ := hf; subst h1
    replace hf := g_o2 hf; obtain ⟨h1, hf⟩ := hf; subst h1
    replace hf := g_o2 hf; obtain ⟨h1, hf⟩ := hf; subst h1
    replace hf := g_o2 hf; obtain ⟨h1, hf⟩ := hf; subst h1
    replace hf := g_o2 hf; obtain ⟨h1, hf⟩ := hf; subst h1
    replace hf := g_o2 hf; obtain ⟨h1, hf⟩ := hf; subst h1
    replace hf := g_o2 hf; obtain ⟨h1, hf⟩ := hf; subst h1
    replace hf := g_o2 hf; obtain ⟨h1, hf⟩ := hf; subst h1
    replace hf := g_o2 hf; obtain ⟨h1, hf⟩ := hf; subst h1
    replace hf := g_o2 hf; obtain ⟨h1, hf⟩ := hf; subst h1
    replace hf := Option.some.inj hf; subst hf
    exact g_iret C d_Mo_law_21 () rfl
  · replace hf := g_in h hf
    refine g_bipush (pc' := 12) (v := (-100)) C d_Mo_law_10 rfl rfl ?_
    refine g_iload_n (pc' := 13) C 0 d_Mo_law_12 rfl rfl ?_
    refine g_isub (pc' := 14) C d_Mo_law_13 rfl ?_
    replace hf := g_o2 hf; obtain ⟨h1, hf⟩ := hf; subst h1
    replace hf := g_o2 hf; obtain ⟨h1, hf⟩ := hf; subst h1
    replace hf := g_o2 hf; obtain ⟨h1, hf⟩ := hf; subst h1
    replace hf := g_o2 hf; obtain ⟨h1, hf⟩ := hf; subst h1
    replace hf := g_o2 hf; obtain ⟨h1, hf⟩ := hf; subst h1
    replace hf := g_o2 hf; obtain ⟨h1, hf⟩ := hf; subst h1
    replace hf := g_o2 hf; obtain ⟨h1, hf⟩ := hf; subst h1
    replace hf := g_o2 hf; obtain ⟨h1, hf⟩ := hf; subst h1
    replace hf := g_o2 hf; obtain ⟨h1, hf⟩ := hf; subst h1
    replace hf := g_o2 hf; obtain ⟨h1, hf⟩ := hf; subst h1
    replace hf := g_o2 hf; obtain ⟨h1, hf⟩ := hf; subst h1
    replace hf := Option.some.inj hf; subst hf
    exact g_iret C d_Mo_law_14 () rfl
def y_Mo_isBarred : MethodName := ⟨"OneLampModel", "isBarred", "(I)Z"⟩
theorem yy_Mo_isBarred : YV y_Mo_isBarred prog_13_method_43_code 3 (some .boolean) 1 := ⟨mw_5_224, mw_1_12, mw_5_223, tm_s (y := y_Mo_isBarred) (n := 58) (by decide +kernel), by decide +kernel, by decide +kernel, by decide +kernel⟩
theorem d_Mo_isBarred_0 : decode prog_13_method_43_code 0 = .ok (.aload_n 0, 1) := by decide +kernel
theorem d_Mo_isBarred_1 : decode prog_13_method_43_code 1 = .ok (.getfield 17, 3) := by decide +kernel
theorem d_Mo_isBarred_4 : decode prog_13_method_43_code 4 = .ok (.iload_n 1, 1) := by decide +kernel
theorem d_Mo_isBarred_5 : decode prog_13_method_43_code 5 = .ok (.baload, 1) := by decide +kernel
theorem d_Mo_isBarred_6 : decode prog_13_method_43_code 6 = .ok (.ifCond .eq 5, 3) := by decide +kernel
theorem d_Mo_isBarred_9 : decode prog_13_method_43_code 9 = .ok (.iconst 1, 1) := by decide +kernel
theorem d_Mo_isBarred_10 : decode prog_13_method_43_code 10 = .ok (.ireturn, 1) := by decide +kernel
theorem d_Mo_isBarred_11 : decode prog_13_method_43_code 11 = .ok (.aload_n 0, 1) := by decide +kernel
theorem d_Mo_isBarred_12 : decode prog_13_method_43_code 12 = .ok (.getfield 248, 3) := by decide +kernel
theorem d_Mo_isBarred_15 : decode prog_13_method_43_code 15 = .ok (.ifCond .ne 5, 3) := by decide +kernel
theorem d_Mo_isBarred_18 : decode prog_13_method_43_code 18 = .ok (.iconst 0, 1) := by decide +kernel
theorem d_Mo_isBarred_19 : decode prog_13_method_43_code 19 = .ok (.ireturn, 1) := by decide +kernel
theorem d_Mo_isBarred_20 : decode prog_13_method_43_code 20 = .ok (.iconst 0, 1) := by decide +kernel
theorem d_Mo_isBarred_21 : decode prog_13_method_43_code 21 = .ok (.istore_n 2, 1) := by decide +kernel
theorem d_Mo_isBarred_22 : decode prog_13_method_43_code 22 = .ok (.iload_n 1, 1) := by decide +kernel
theorem d_Mo_isBarred_23 : decode prog_13_method_43_code 23 = .ok (.iload_n 2, 1) := by decide +kernel
theorem d_Mo_isBarred_24 : decode prog_13_method_43_code 24 = .ok (.ishr, 1) := by decide +kernel
theorem d_Mo_isBarred_25 : decode prog_13_method_43_code 25 = .ok (.ifCond .eq 9, 3) := by decide +kernel
theorem d_Mo_isBarred_28 : decode prog_13_method_43_code 28 = .ok (.iinc 2 1, 3) := by decide +kernel
theorem d_Mo_isBarred_31 : decode prog_13_method_43_code 31 = .ok (.goto (-9), 3) := by decide +kernel
theorem d_Mo_isBarred_34 : decode prog_13_method_43_code 34 = .ok (.aload_n 0, 1) := by decide +kernel
theorem d_Mo_isBarred_35 : decode prog_13_method_43_code 35 = .ok (.getfield 65, 3) := by decide +kernel
theorem d_Mo_isBarred_38 : decode prog_13_method_43_code 38 = .ok (.iconst 0, 1) := by decide +kernel
theorem d_Mo_isBarred_39 : decode prog_13_method_43_code 39 = .ok (.iload_n 1, 1) := by decide +kernel
theorem d_Mo_isBarred_40 : decode prog_13_method_43_code 40 = .ok (.iastore, 1) := by decide +kernel
theorem d_Mo_isBarred_41 : decode prog_13_method_43_code 41 = .ok (.aload_n 0, 1) := by decide +kernel
theorem d_Mo_isBarred_42 : decode prog_13_method_43_code 42 = .ok (.getfield 65, 3) := by decide +kernel
theorem d_Mo_isBarred_45 : decode prog_13_method_43_code 45 = .ok (.iconst 1, 1) := by decide +kernel
theorem d_Mo_isBarred_46 : decode prog_13_method_43_code 46 = .ok (.iload_n 1, 1) := by decide +kernel
theorem d_Mo_isBarred_47 : decode prog_13_method_43_code 47 = .ok (.invokestatic 251, 3) := by decide +kernel
theorem d_Mo_isBarred_50 : decode prog_13_method_43_code 50 = .ok (.iastore, 1) := by decide +kernel
theorem d_Mo_isBarred_51 : decode prog_13_method_43_code 51 = .ok (.aload_n 0, 1) := by decide +kernel
theorem d_Mo_isBarred_52 : decode prog_13_method_43_code 52 = .ok (.getfield 65, 3) := by decide +kernel
theorem d_Mo_isBarred_55 : decode prog_13_method_43_code 55 = .ok (.iconst 2, 1) := by decide +kernel
theorem d_Mo_isBarred_56 : decode prog_13_method_43_code 56 = .ok (.aload_n 0, 1) := by decide +kernel
theorem d_Mo_isBarred_57 : decode prog_13_method_43_code 57 = .ok (.getfield 7, 3) := by decide +kernel
theorem d_Mo_isBarred_60 : decode prog_13_method_43_code 60 = .ok (.iastore, 1) := by decide +kernel
theorem d_Mo_isBarred_61 : decode prog_13_method_43_code 61 = .ok (.aload_n 0, 1) := by decide +kernel
theorem d_Mo_isBarred_62 : decode prog_13_method_43_code 62 = .ok (.getfield 65, 3) := by decide +kernel
theorem d_Mo_isBarred_65 : decode prog_13_method_43_code 65 = .ok (.iconst 3, 1) := by decide +kernel
theorem d_Mo_isBarred_66 : decode prog_13_method_43_code 66 = .ok (.iload_n 2, 1) := by decide +kernel
theorem d_Mo_isBarred_67 : decode prog_13_method_43_code 67 = .ok (.iastore, 1) := by decide +kernel
theorem d_Mo_isBarred_68 : decode prog_13_method_43_code 68 = .ok (.aload_n 0, 1) := by decide +kernel
theorem d_Mo_isBarred_69 : decode prog_13_method_43_code 69 = .ok (.iconst 0, 1) := by decide +kernel
theorem d_Mo_isBarred_70 : decode prog_13_method_43_code 70 = .ok (.invokevirtual 254, 3) := by decide +kernel
theorem d_Mo_isBarred_73 : decode prog_13_method_43_code 73 = .ok (.ifCond .eq 7, 3) := by decide +kernel
theorem d_Mo_isBarred_76 : decode prog_13_method_43_code 76 = .ok (.iconst 1, 1) := by decide +kernel
theorem d_Mo_isBarred_77 : decode prog_13_method_43_code 77 = .ok (.goto 4, 3) := by decide +kernel
theorem d_Mo_isBarred_80 : decode prog_13_method_43_code 80 = .ok (.iconst 0, 1) := by decide +kernel
theorem d_Mo_isBarred_81 : decode prog_13_method_43_code 81 = .ok (.ireturn, 1) := by decide +kernel
def f_Mo_isBarred_L22   : Nat → Int32 → Int32 → Int32 → (Nat → Int32) → (Nat → Int32) → (Nat → Int32) → (Nat → Int32) → (Nat → Int32) → (Nat → Int32) → (Nat → Int32) → Option (Bool × (Nat → Int32) × (Nat → Int32))
  | 0, _, _, _, _, _, _, _, _, _, _ => none
  | n + 1, v1, v2, x_o_lamps, x_o_facts, x_o_lineMany, x_o_testEnd, x_o_act, x_o_pile, x_o_with, x_o_lineEnd =>
    if (v1 >>> (v2 &&& 31)) = 0 then
      ((f_Mo_litOf  v1).bind fun r1 =>
      (f_Mo_gives  (0 : Int32) x_o_lineMany x_o_testEnd x_o_act x_o_pile x_o_with (upd (upd (upd (upd x_o_facts (Int32.toNatClampNeg (0 : Int32)) v1) (Int32.toNatClampNeg (1 : Int32)) r1) (Int32.toNatClampNeg (2 : Int32)) x_o_lamps) (Int32.toNatClampNeg (3 : Int32)) v2) x_o_lineEnd).bind fun (r3, u4) =>
      if r3 = 0 then
        (some (false, (upd (upd (upd (upd x_o_facts (Int32.toNatClampNeg (0 : Int32)) v1) (Int32.toNatClampNeg (1 : Int32)) r1) (Int32.toNatClampNeg (2 : Int32)) x_o_lamps) (Int32.toNatClampNeg (3 : Int32)) v2), u4))
      else
        (some (true, (upd (upd (upd (upd x_o_facts (Int32.toNatClampNeg (0 : Int32)) v1) (Int32.toNatClampNeg (1 : Int32)) r1) (Int32.toNatClampNeg (2 : Int32)) x_o_lamps) (Int32.toNatClampNeg (3 : Int32)) v2), u4)))
    else
      (f_Mo_isBarred_L22  n v1 (v2 + 1) x_o_lamps x_o_facts x_o_lineMany x_o_testEnd x_o_act x_o_pile x_o_with x_o_lineEnd)
set_option maxRecDepth 20000 in
theorem w_Mo_isBarred_L22 {p : Program} {l : Launch} {e : Env} {s : State} {m : MethodId} {args : Array Value} {below : List Frame} {meth : Method} {c : Code} {D : va_G} {dA : Nat → ClassId} {A : Nat → Prop} (C : GC p s m args meth c prog_13_method_43_code 3 "OneLampModel" (some .boolean) D dA A) {a_o a_o_had a_o_told a_o_barred a_o_cost a_o_last a_o_often a_o_changeOf a_o_changeAt a_o_before a_o_behind a_o_tape a_o_act a_o_with a_o_lineMany a_o_testEnd a_o_lineEnd a_o_facts a_o_pile a_o_way a_o_bestWay a_o_wasHad a_o_wasLast a_o_keptHad a_o_keptTold a_o_keptLast a_o_keptOften a_o_kind a_o_traced a_o_holds a_o_size a_o_elements a_o_shifted : Nat} {x_o_code : Int32} {x_o_at : Int32} {x_o_night : Int32} {x_o_spent : Int32} {x_o_rest : Int32} {x_o_shy : Int32} {x_o_hasBegun : Bool} {x_o_doneMany : Int32} {x_o_undoneMany : Int32} {x_o_taped : Int32} {x_o_here : Int32} {x_o_fault : Int32} {x_o_open : Int32} {x_o_laid : Int32} {x_o_hasLaw : Bool} {x_o_bestMany : Int32} {x_o_wasAt : Int32} {x_o_wasNight : Int32} {x_o_hasImage : Bool} {x_o_keptLamps : Int32} {x_o_keptAt : Int32} {x_o_keptNight : Int32} {x_o_keptSpent : Int32} {x_o_bodies : Int32} {x_o_traces : Int32} {x_o_told : Nat → Int32} {r0 : Bool} {o_x_o_facts : Nat → Int32} {o_x_o_pile : Nat → Int32}    : ∀ (n : Nat) (v1 : Int32) (v2 : Int32) (x_o_lamps : Int32) (x_o_facts : Nat → Int32) (x_o_lineMany : Nat → Int32) (x_o_testEnd : Nat → Int32) (x_o_act : Nat → Int32) (x_o_pile : Nat → Int32) (x_o_with : Nat → Int32) (x_o_lineEnd : Nat → Int32), f_Mo_isBarred_L22   n v1 v2 x_o_lamps x_o_facts x_o_lineMany x_o_testEnd x_o_act x_o_pile x_o_with x_o_lineEnd = some (r0, o_x_o_facts, o_x_o_pile) → GG p l e { frames := 3, cells := 0, slots := 0, locals := 71 } s m args below meth c 3 D A 0 0 (MQ below (cQ D A (some (.int (b2i r0))) (fun _ : Unit => [O_Mo a_o x_o_code x_o_lamps x_o_at x_o_night x_o_spent x_o_rest x_o_shy a_o_had a_o_told a_o_barred a_o_cost a_o_last a_o_often x_o_hasBegun x_o_doneMany x_o_undoneMany a_o_changeOf a_o_changeAt a_o_before a_o_behind a_o_tape x_o_taped x_o_here x_o_fault x_o_open x_o_laid a_o_act a_o_with a_o_lineMany a_o_testEnd a_o_lineEnd a_o_facts a_o_pile x_o_hasLaw a_o_way a_o_bestWay x_o_bestMany a_o_wasHad a_o_wasLast x_o_wasAt x_o_wasNight x_o_hasImage x_o_keptLamps x_o_keptAt x_o_keptNight x_o_keptSpent a_o_keptHad a_o_keptTold a_o_keptLast a_o_keptOften x_o_bodies a_o_kind x_o_traces a_o_traced a_o_holds a_o_size a_o_elements a_o_shifted, A_Z dA a_o_told 1024 x_o_told, A_I dA a_o_facts 4 o_x_o_facts, A_I dA a_o_lineMany 2 x_o_lineMany, A_S dA a_o_testEnd 122 x_o_testEnd, A_B dA a_o_act 260 x_o_act, A_I dA a_o_pile 130 o_x_o_pile, A_I dA a_o_with 260 x_o_with, A_S dA a_o_lineEnd 122 x_o_lineEnd])) args s 0 0 A) 22 [(0, .ref a_o), (1, .int v1), (2, .int v2)] [] [O_Mo a_o x_o_code x_o_lamps x_o_at x_o_night x_o_spent x_o_rest x_o_shy a_o_had a_o_told a_o_barred a_o_cost a_o_last a_o_often x_o_hasBegun x_o_doneMany x_o_undoneMany a_o_changeOf a_o_changeAt a_o_before a_o_behind a_o_tape x_o_taped x_o_here x_o_fault x_o_open x_o_laid a_o_act a_o_with a_o_lineMany a_o_testEnd a_o_lineEnd a_o_facts a_o_pile x_o_hasLaw a_o_way a_o_bestWay x_o_bestMany a_o_wasHad a_o_wasLast x_o_wasAt x_o_wasNight x_o_hasImage x_o_keptLamps x_o_keptAt x_o_keptNight x_o_keptSpent a_o_keptHad a_o_keptTold a_o_keptLast a_o_keptOften x_o_bodies a_o_kind x_o_traces a_o_traced a_o_holds a_o_size a_o_elements a_o_shifted, A_Z dA a_o_told 1024 x_o_told, A_I dA a_o_facts 4 x_o_facts, A_I dA a_o_lineMany 2 x_o_lineMany, A_S dA a_o_testEnd 122 x_o_testEnd, A_B dA a_o_act 260 x_o_act, A_I dA a_o_pile 130 x_o_pile, A_I dA a_o_with 260 x_o_with, A_S dA a_o_lineEnd 122 x_o_lineEnd] := by
  intro n
  induction n with
  | zero =>
    intro v1 v2 x_o_lamps x_o_facts x_o_lineMany x_o_testEnd x_o_act x_o_pile x_o_with x_o_lineEnd hf
    cases hf
  | succ n ih =>
    intro v1 v2 x_o_lamps x_o_facts x_o_lineMany x_o_testEnd x_o_act x_o_pile x_o_with x_o_lineEnd hf
    unfold f_Mo_isBarred_L22 at hf
    refine g_iload_n (pc' := 23) C 1 d_Mo_isBarred_22 rfl rfl ?_
    refine g_iload_n (pc' := 24) C 2 d_Mo_isBarred_23 rfl rfl ?_
    refine g_ishr (pc' := 25) C d_Mo_isBarred_24 rfl ?_
    refine g_if_eq (pc' := 28) (tgt := 34) C d_Mo_isBarred_25 rfl rfl (fun h => ?_) (fun h => ?_)
    · replace hf := g_ip h hf
      refine g_aload_n (pc' := 35) C 0 d_Mo_isBarred_34 rfl rfl ?_
      refine g_get (pc' := 38) C kf_Mo 31 mw_4_169 d_Mo_isBarred_35 rfl 0 rfl (by decide) rfl ?_
      refine g_iconst (pc' := 39) (v := 0) C d_Mo_isBarred_38 rfl rfl ?_
      refine g_iload_n (pc' := 40) C 1 d_Mo_isBarred_39 rfl rfl ?_
      refine g_iast (pc' := 41) (ws' := [O_Mo a_o x_o_code x_o_lamps x_o_at x_o_night x_o_spent x_o_rest x_o_shy a_o_had a_o_told a_o_barred a_o_cost a_o_last a_o_often x_o_hasBegun x_o_doneMany x_o_undoneMany a_o_changeOf a_o_changeAt a_o_before a_o_behind a_o_tape x_o_taped x_o_here x_o_fault x_o_open x_o_laid a_o_act a_o_with a_o_lineMany a_o_testEnd a_o_lineEnd a_o_facts a_o_pile x_o_hasLaw a_o_way a_o_bestWay x_o_bestMany a_o_wasHad a_o_wasLast x_o_wasAt x_o_wasNight x_o_hasImage x_o_keptLamps x_o_keptAt x_o_keptNight x_o_keptSpent a_o_keptHad a_o_keptTold a_o_keptLast a_o_keptOften x_o_bodies a_o_kind x_o_traces a_o_traced a_o_holds a_o_size a_o_elements a_o_shifted, A_Z dA a_o_told 1024 x_o_told, A_I dA a_o_facts 4 (upd x_o_facts (Int32.toNatClampNeg (0 : Int32)) v1), A_I dA a_o_lineMany 2 x_o_lineMany, A_S dA a_o_testEnd 122 x_o_testEnd, A_B dA a_o_act 260 x_o_act, A_I dA a_o_pile 130 x_o_pile, A_I dA a_o_with 260 x_o_with, A_S dA a_o_lineEnd 122 x_o_lineEnd]) C d_Mo_isBarred_40 rfl 2 rfl (by decide) rfl ?_
      refine g_aload_n (pc' := 42) C 0 d_Mo_isBarred_41 rfl rfl ?_
      refine g_get (pc' := 45) C kf_Mo 31 mw_4_169 d_Mo_isBarred_42 rfl 0 rfl (by decide) rfl ?_
      refine g_iconst (pc' := 46) (v := 1) C d_Mo_isBarred_45 rfl rfl ?_
      refine g_iload_n (pc' := 47) C 1 d_Mo_isBarred_46 rfl rfl ?_
      replace hf := g_bi hf; obtain ⟨r1, hc2, hf⟩ := hf
      refine g_callS (pc' := 50) (st1 := [.int r1, .int 1, .ref a_o_facts]) (ws1 := [O_Mo a_o x_o_code x_o_lamps x_o_at x_o_night x_o_spent x_o_rest x_o_shy a_o_had a_o_told a_o_barred a_o_cost a_o_last a_o_often x_o_hasBegun x_o_doneMany x_o_undoneMany a_o_changeOf a_o_changeAt a_o_before a_o_behind a_o_tape x_o_taped x_o_here x_o_fault x_o_open x_o_laid a_o_act a_o_with a_o_lineMany a_o_testEnd a_o_lineEnd a_o_facts a_o_pile x_o_hasLaw a_o_way a_o_bestWay x_o_bestMany a_o_wasHad a_o_wasLast x_o_wasAt x_o_wasNight x_o_hasImage x_o_keptLamps x_o_keptAt x_o_keptNight x_o_keptSpent a_o_keptHad a_o_keptTold a_o_keptLast a_o_keptOften x_o_bodies a_o_kind x_o_traces a_o_traced a_o_holds a_o_size a_o_elements a_o_shifted, A_Z dA a_o_told 1024 x_o_told, A_I dA a_o_facts 4 (upd x_o_facts (Int32.toNatClampNeg (0 : Int32)) v1), A_I dA a_o_lineMany 2 x_o_lineMany, A_S dA a_o_testEnd 122 x_o_testEnd, A_B dA a_o_act 260 x_o_act, A_I dA a_o_pile 130 x_o_pile, A_I dA a_o_with 260 x_o_with, A_S dA a_o_lineEnd 122 x_o_lineEnd]) C (c_Mo_litOf (l := l) (D := D) (dA := dA)    hc2) yy_Mo_litOf mw_5_225 d_Mo_isBarred_47 rfl [.int 1, .ref a_o_facts] rfl rfl (Nat.le_of_ble_eq_true rfl) ⟨Nat.le_of_ble_eq_true rfl, Nat.le_of_ble_eq_true rfl⟩ rfl rfl (Nat.zero_le _) (Nat.zero_le _) [] rfl (by decide +kernel) rfl (g_lay_sel _ _ _ _ [(0, false), (1, false), (2, false), (3, false), (4, false), (5, false), (6, false), (7, false), (8, false)] (by decide +kernel) rfl (by decide +kernel) rfl rfl) rfl ?_
      refine g_iast (pc' := 51) (ws' := [O_Mo a_o x_o_code x_o_lamps x_o_at x_o_night x_o_spent x_o_rest x_o_shy a_o_had a_o_told a_o_barred a_o_cost a_o_last a_o_often x_o_hasBegun x_o_doneMany x_o_undoneMany a_o_changeOf a_o_changeAt a_o_before a_o_behind a_o_tape x_o_taped x_o_here x_o_fault x_o_open x_o_laid a_o_act a_o_with a_o_lineMany a_o_testEnd a_o_lineEnd a_o_facts a_o_pile x_o_hasLaw a_o_way a_o_bestWay x_o_bestMany a_o_wasHad a_o_wasLast x_o_wasAt x_o_wasNight x_o_hasImage x_o_keptLamps x_o_keptAt x_o_keptNight x_o_keptSpent a_o_keptHad a_o_keptTold a_o_keptLast a_o_keptOften x_o_bodies a_o_kind x_o_traces a_o_traced a_o_holds a_o_size a_o_elements a_o_shifted, A_Z dA a_o_told 1024 x_o_told, A_I dA a_o_facts 4 (upd (upd x_o_facts (Int32.toNatClampNeg (0 : Int32)) v1) (Int32.toNatClampNeg (1 : Int32)) r1), A_I dA a_o_lineMany 2 x_o_lineMany, A_S dA a_o_testEnd 122 x_o_testEnd, A_B dA a_o_act 260 x_o_act, A_I dA a_o_pile 130 x_o_pile, A_I dA a_o_with 260 x_o_with, A_S dA a_o_lineEnd 122 x_o_lineEnd]) C d_Mo_isBarred_50 rfl 2 rfl (by decide) rfl ?_
      refine g_aload_n (pc' := 52) C 0 d_Mo_isBarred_51 rfl rfl ?_
      refine g_get (pc' := 55) C kf_Mo 31 mw_4_169 d_Mo_isBarred_52 rfl 0 rfl (by decide) rfl ?_
      refine g_iconst (pc' := 56) (v := 2) C d_Mo_isBarred_55 rfl rfl ?_
      refine g_aload_n (pc' := 57) C 0 d_Mo_isBarred_56 rfl rfl ?_
      refine g_get (pc' := 60) C kf_Mo 1 mw_4_139 d_Mo_isBarred_57 rfl 0 rfl (by decide) rfl ?_
      refine g_iast (pc' := 61) (ws' := [O_Mo a_o x_o_code x_o_lamps x_o_at x_o_night x_o_spent x_o_rest x_o_shy a_o_had a_o_told a_o_barred a_o_cost a_o_last a_o_often x_o_hasBegun x_o_doneMany x_o_undoneMany a_o_changeOf a_o_changeAt a_o_before a_o_behind a_o_tape x_o_taped x_o_here x_o_fault x_o_open x_o_laid a_o_act a_o_with a_o_lineMany a_o_testEnd a_o_lineEnd a_o_facts a_o_pile x_o_hasLaw a_o_way a_o_bestWay x_o_bestMany a_o_wasHad a_o_wasLast x_o_wasAt x_o_wasNight x_o_hasImage x_o_keptLamps x_o_keptAt x_o_keptNight x_o_keptSpent a_o_keptHad a_o_keptTold a_o_keptLast a_o_keptOften x_o_bodies a_o_kind x_o_traces a_o_traced a_o_holds a_o_size a_o_elements a_o_shifted, A_Z dA a_o_told 1024 x_o_told, A_I dA a_o_facts 4 (upd (upd (upd x_o_facts (Int32.toNatClampNeg (0 : Int32)) v1) (Int32.toNatClampNeg (1 : Int32)) r1) (Int32.toNatClampNeg (2 : Int32)) x_o_lamps), A_I dA a_o_lineMany 2 x_o_lineMany, A_S dA a_o_testEnd 122 x_o_testEnd, A_B dA a_o_act 260 x_o_act, A_I dA a_o_pile 130 x_o_pile, A_I dA a_o_with 260 x_o_with, A_S dA a_o_lineEnd 122 x_o_lineEnd]) C d_Mo_isBarred_60 rfl 2 rfl (by decide) rfl ?_
      refine g_aload_n (pc' := 62) C 0 d_Mo_isBarred_61 rfl rfl ?_
      refine g_get (pc' := 65) C kf_Mo 31 mw_4_169 d_Mo_isBarred_62 rfl 0 rfl (by decide) rfl ?_
      refine g_iconst (pc' := 66) (v := 3) C d_Mo_isBarred_65 rfl rfl ?_
      refine g_iload_n (pc' := 67) C 2 d_Mo_isBarred_66 rfl rfl ?_
      refine g_iast (pc' := 68) (ws' := [O_Mo a_o x_o_code x_o_lamps x_o_at x_o_night x_o_spent x_o_rest x_o_shy a_o_had a_o_told a_o_barred a_o_cost a_o_last a_o_often x_o_hasBegun x_o_doneMany x_o_undoneMany a_o_changeOf a_o_changeAt a_o_before a_o_behind a_o_tape x_o_taped x_o_here x_o_fault x_o_open x_o_laid a_o_act a_o_with a_o_lineMany a_o_testEnd a_o_lineEnd a_o_facts a_o_pile x_o_hasLaw a_o_way a_o_bestWay x_o_bestMany a_o_wasHad a_o_wasLast x_o_wasAt x_o_wasNight x_o_hasImage x_o_keptLamps x_o_keptAt x_o_keptNight x_o_keptSpent a_o_keptHad a_o_keptTold a_o_keptLast a_o_keptOften x_o_bodies a_o_kind x_o_traces a_o_traced a_o_holds a_o_size a_o_elements a_o_shifted, A_Z dA a_o_told 1024 x_o_told, A_I dA a_o_facts 4 (upd (upd (upd (upd x_o_facts (Int32.toNatClampNeg (0 : Int32)) v1) (Int32.toNatClampNeg (1 : Int32)) r1) (Int32.toNatClampNeg (2 : Int32)) x_o_lamps) (Int32.toNatClampNeg (3 : Int32)) v2), A_I dA a_o_lineMany 2 x_o_lineMany, A_S dA a_o_testEnd 122 x_o_testEnd, A_B dA a_o_act 260 x_o_act, A_I dA a_o_pile 130 x_o_pile, A_I dA a_o_with 260 x_o_with, A_S dA a_o_lineEnd 122 x_o_lineEnd]) C d_Mo_isBarred_67 rfl 2 rfl (by decide) rfl ?_
      refine g_aload_n (pc' := 69) C 0 d_Mo_isBarred_68 rfl rfl ?_
      refine g_iconst (pc' := 70) (v := 0) C d_Mo_isBarred_69 rfl rfl ?_
      replace hf := g_bi hf; obtain ⟨⟨r3, u4⟩, hc5, hf⟩ := hf
      dsimp only at hf
      refine g_callV (pc' := 73) (st1 := [.int r3]) (ws1 := [O_Mo a_o x_o_code x_o_lamps x_o_at x_o_night x_o_spent x_o_rest x_o_shy a_o_had a_o_told a_o_barred a_o_cost a_o_last a_o_often x_o_hasBegun x_o_doneMany x_o_undoneMany a_o_changeOf a_o_changeAt a_o_before a_o_behind a_o_tape x_o_taped x_o_here x_o_fault x_o_open x_o_laid a_o_act a_o_with a_o_lineMany a_o_testEnd a_o_lineEnd a_o_facts a_o_pile x_o_hasLaw a_o_way a_o_bestWay x_o_bestMany a_o_wasHad a_o_wasLast x_o_wasAt x_o_wasNight x_o_hasImage x_o_keptLamps x_o_keptAt x_o_keptNight x_o_keptSpent a_o_keptHad a_o_keptTold a_o_keptLast a_o_keptOften x_o_bodies a_o_kind x_o_traces a_o_traced a_o_holds a_o_size a_o_elements a_o_shifted, A_Z dA a_o_told 1024 x_o_told, A_I dA a_o_facts 4 (upd (upd (upd (upd x_o_facts (Int32.toNatClampNeg (0 : Int32)) v1) (Int32.toNatClampNeg (1 : Int32)) r1) (Int32.toNatClampNeg (2 : Int32)) x_o_lamps) (Int32.toNatClampNeg (3 : Int32)) v2), A_I dA a_o_lineMany 2 x_o_lineMany, A_S dA a_o_testEnd 122 x_o_testEnd, A_B dA a_o_act 260 x_o_act, A_I dA a_o_pile 130 u4, A_I dA a_o_with 260 x_o_with, A_S dA a_o_lineEnd 122 x_o_lineEnd]) C (c_Mo_gives (l := l) (D := D) (dA := dA) (a_o := a_o) (a_o_had := a_o_had) (a_o_told := a_o_told) (a_o_barred := a_o_barred) (a_o_cost := a_o_cost) (a_o_last := a_o_last) (a_o_often := a_o_often) (a_o_changeOf := a_o_changeOf) (a_o_changeAt := a_o_changeAt) (a_o_before := a_o_before) (a_o_behind := a_o_behind) (a_o_tape := a_o_tape) (a_o_act := a_o_act) (a_o_with := a_o_with) (a_o_lineMany := a_o_lineMany) (a_o_testEnd := a_o_testEnd) (a_o_lineEnd := a_o_lineEnd) (a_o_facts := a_o_facts) (a_o_pile := a_o_pile) (a_o_way := a_o_way) (a_o_bestWay := a_o_bestWay) (a_o_wasHad := a_o_wasHad) (a_o_wasLast := a_o_wasLast) (a_o_keptHad := a_o_keptHad) (a_o_keptTold := a_o_keptTold) (a_o_keptLast := a_o_keptLast) (a_o_keptOften := a_o_keptOften) (a_o_kind := a_o_kind) (a_o_traced := a_o_traced) (a_o_holds := a_o_holds) (a_o_size := a_o_size) (a_o_elements := a_o_elements) (a_o_shifted := a_o_shifted) (x_o_code := x_o_code) (x_o_lamps := x_o_lamps) (x_o_at := x_o_at) (x_o_night := x_o_night) (x_o_spent := x_o_spent) (x_o_rest := x_o_rest) (x_o_shy := x_o_shy) (x_o_hasBegun := x_o_hasBegun) (x_o_doneMany := x_o_doneMany) (x_o_undoneMany := x_o_undoneMany) (x_o_taped := x_o_taped) (x_o_here := x_o_here) (x_o_fault := x_o_fault) (x_o_open := x_o_open) (x_o_laid := x_o_laid) (x_o_hasLaw := x_o_hasLaw) (x_o_bestMany := x_o_bestMany) (x_o_wasAt := x_o_wasAt) (x_o_wasNight := x_o_wasNight) (x_o_hasImage := x_o_hasImage) (x_o_keptLamps := x_o_keptLamps) (x_o_keptAt := x_o_keptAt) (x_o_keptNight := x_o_keptNight) (x_o_keptSpent := x_o_keptSpent) (x_o_bodies := x_o_bodies) (x_o_traces := x_o_traces)   hc5) yy_Mo_gives kf_Mo rfl mw_5_228 d_Mo_isBarred_70 rfl [] rfl rfl (Nat.le_of_ble_eq_true rfl) ⟨Nat.le_of_ble_eq_true rfl, Nat.le_of_ble_eq_true rfl⟩ rfl rfl (Nat.zero_le _) (Nat.zero_le _) 0 rfl [0, 3, 4, 5, 6, 7, 2, 8] rfl (by decide +kernel) rfl (g_lay_sel _ _ _ _ [(0, true), (1, false), (6, true), (1, true), (2, true), (3, true), (4, true), (5, true), (7, true)] (by decide +kernel) rfl (by decide +kernel) rfl rfl) rfl ?_
      refine g_if_eq (pc' := 76) (tgt := 80) C d_Mo_isBarred_73 rfl rfl (fun h => ?_) (fun h => ?_)
      · replace hf := g_ip h hf
        refine g_iconst (pc' := 81) (v := 0) C d_Mo_isBarred_80 rfl rfl ?_
        replace hf := g_o2 hf; obtain ⟨h1, hf⟩ := hf; subst h1
        replace hf := g_o2 hf; obtain ⟨h1, hf⟩ := hf; subst h1
        replace hf := Option.some.inj hf; subst hf
        exact g_zret C d_Mo_isBarred_81 () rfl
      · replace hf := g_in h hf
        refine g_iconst (pc' := 77) (v := 1) C d_Mo_isBarred_76 rfl rfl ?_
        refine g_goto (tgt := 81) C d_Mo_isBarred_77 rfl ?_
        replace hf := g_o2 hf; obtain ⟨h1, hf⟩ := hf; subst h1
        replace hf := g_o2 hf; obtain ⟨h1, hf⟩ := hf; subst h1
        replace hf := Option.some.inj hf; subst hf
        exact g_zret C d_Mo_isBarred_81 () rfl
    · replace hf := g_in h hf
      refine g_iinc (pc' := 31) (j := 2) (v := (v2 + 1)) (lv' := [(2, .int (v2 + 1)), (0, .ref a_o), (1, .int v1)]) C d_Mo_isBarred_28 rfl rfl rfl (by decide) rfl ?_
      refine g_goto (tgt := 22) C d_Mo_isBarred_31 rfl ?_
      refine g_lv (lv' := [(0, .ref a_o), (1, .int v1), (2, .int (v2 + 1))]) [1, 2, 0] rfl ?_
      exact ih v1 (v2 + 1) x_o_lamps x_o_facts x_o_lineMany x_o_testEnd x_o_act x_o_pile x_o_with x_o_lineEnd hf
def f_Mo_isBarred  (p1 : Int32) (x_o_lamps : Int32) (x_o_hasLaw : Bool) (x_o_told : Nat → Int32) (x_o_facts : Nat → Int32) (x_o_lineMany : Nat → Int32) (x_o_testEnd : Nat → Int32) (x_o_act : Nat → Int32) (x_o_pile : Nat → Int32) (x_o_with : Nat → Int32) (x_o_lineEnd : Nat → Int32) : Option (Bool × (Nat → Int32) × (Nat → Int32)) :=
  if p1 < 0 ∨ 1024 ≤ Int32.toNatClampNeg p1 then none else
  if (x_o_told (Int32.toNatClampNeg p1)) = 0 then
    (if x_o_hasLaw = true then
      (f_Mo_isBarred_L22  3000 p1 (0 : Int32) x_o_lamps x_o_facts x_o_lineMany x_o_testEnd x_o_act x_o_pile x_o_with x_o_lineEnd)
    else
      (some (false, x_o_facts, x_o_pile)))
  else
    (some (true, x_o_facts, x_o_pile))
set_option maxRecDepth 20000 in
theorem c_Mo_isBarred {l : Launch} {D : va_G} {dA : Nat → ClassId} {a_o a_o_had a_o_told a_o_barred a_o_cost a_o_last a_o_often a_o_changeOf a_o_changeAt a_o_before a_o_behind a_o_tape a_o_act a_o_with a_o_lineMany a_o_testEnd a_o_lineEnd a_o_facts a_o_pile a_o_way a_o_bestWay a_o_wasHad a_o_wasLast a_o_keptHad a_o_keptTold a_o_keptLast a_o_keptOften a_o_kind a_o_traced a_o_holds a_o_size a_o_elements a_o_shifted : Nat} {x_o_code : Int32} {x_o_at : Int32} {x_o_night : Int32} {x_o_spent : Int32} {x_o_rest : Int32} {x_o_shy : Int32} {x_o_hasBegun : Bool} {x_o_doneMany : Int32} {x_o_undoneMany : Int32} {x_o_taped : Int32} {x_o_here : Int32} {x_o_fault : Int32} {x_o_open : Int32} {x_o_laid : Int32} {x_o_bestMany : Int32} {x_o_wasAt : Int32} {x_o_wasNight : Int32} {x_o_hasImage : Bool} {x_o_keptLamps : Int32} {x_o_keptAt : Int32} {x_o_keptNight : Int32} {x_o_keptSpent : Int32} {x_o_bodies : Int32} {x_o_traces : Int32} {p1 : Int32} {x_o_lamps : Int32} {x_o_hasLaw : Bool} {x_o_told : Nat → Int32} {x_o_facts : Nat → Int32} {x_o_lineMany : Nat → Int32} {x_o_testEnd : Nat → Int32} {x_o_act : Nat → Int32} {x_o_pile : Nat → Int32} {x_o_with : Nat → Int32} {x_o_lineEnd : Nat → Int32} {r0 : Bool} {o_x_o_facts : Nat → Int32} {o_x_o_pile : Nat → Int32}   (hf : f_Mo_isBarred  p1 x_o_lamps x_o_hasLaw x_o_told x_o_facts x_o_lineMany x_o_testEnd x_o_act x_o_pile x_o_with x_o_lineEnd = some (r0, o_x_o_facts, o_x_o_pile)) : CT l y_Mo_isBarred prog_13_method_43_code 3 (some .boolean) { frames := 3, cells := 0, slots := 0, locals := 71 } D dA [.ref a_o, .int p1] [O_Mo a_o x_o_code x_o_lamps x_o_at x_o_night x_o_spent x_o_rest x_o_shy a_o_had a_o_told a_o_barred a_o_cost a_o_last a_o_often x_o_hasBegun x_o_doneMany x_o_undoneMany a_o_changeOf a_o_changeAt a_o_before a_o_behind a_o_tape x_o_taped x_o_here x_o_fault x_o_open x_o_laid a_o_act a_o_with a_o_lineMany a_o_testEnd a_o_lineEnd a_o_facts a_o_pile x_o_hasLaw a_o_way a_o_bestWay x_o_bestMany a_o_wasHad a_o_wasLast x_o_wasAt x_o_wasNight x_o_hasImage x_o_keptLamps x_o_keptAt x_o_keptNight x_o_keptSpent a_o_keptHad a_o_keptTold a_o_keptLast a_o_keptOften x_o_bodies a_o_kind x_o_traces a_o_traced a_o_holds a_o_size a_o_elements a_o_shifted, A_Z dA a_o_told 1024 x_o_told, A_I dA a_o_facts 4 x_o_facts, A_I dA a_o_lineMany 2 x_o_lineMany, A_S dA a_o_testEnd 122 x_o_testEnd, A_B dA a_o_act 260 x_o_act, A_I dA a_o_pile 130 x_o_pile, A_I dA a_o_with 260 x_o_with, A_S dA a_o_lineEnd 122 x_o_lineEnd] (some (.int (b2i r0))) (fun _ : Unit => [O_Mo a_o x_o_code x_o_lamps x_o_at x_o_night x_o_spent x_o_rest x_o_shy a_o_had a_o_told a_o_barred a_o_cost a_o_last a_o_often x_o_hasBegun x_o_doneMany x_o_undoneMany a_o_changeOf a_o_changeAt a_o_before a_o_behind a_o_tape x_o_taped x_o_here x_o_fault x_o_open x_o_laid a_o_act a_o_with a_o_lineMany a_o_testEnd a_o_lineEnd a_o_facts a_o_pile x_o_hasLaw a_o_way a_o_bestWay x_o_bestMany a_o_wasHad a_o_wasLast x_o_wasAt x_o_wasNight x_o_hasImage x_o_keptLamps x_o_keptAt x_o_keptNight x_o_keptSpent a_o_keptHad a_o_keptTold a_o_keptLast a_o_keptOften x_o_bodies a_o_kind x_o_traces a_o_traced a_o_holds a_o_size a_o_elements a_o_shifted, A_Z dA a_o_told 1024 x_o_told, A_I dA a_o_facts 4 o_x_o_facts, A_I dA a_o_lineMany 2 x_o_lineMany, A_S dA a_o_testEnd 122 x_o_testEnd, A_B dA a_o_act 260 x_o_act, A_I dA a_o_pile 130 o_x_o_pile, A_I dA a_o_with 260 x_o_with, A_S dA a_o_lineEnd 122 x_o_lineEnd]) := by
  refine ct_intro "OneLampModel" rfl (by decide +kernel) (Nat.le_of_ble_eq_true rfl) [(0, .ref a_o), (1, .int p1)] rfl (fun _ C => ?_)
  unfold f_Mo_isBarred at hf
  refine g_aload_n (pc' := 1) C 0 d_Mo_isBarred_0 rfl rfl ?_
  refine g_get (pc' := 4) C kf_Mo 8 mw_4_146 d_Mo_isBarred_1 rfl 0 rfl (by decide) rfl ?_
  refine g_iload_n (pc' := 5) C 1 d_Mo_isBarred_4 rfl rfl ?_
  have hb := g_ck hf
  replace hf := g_in hb hf
  refine g_zald (pc' := 6) C d_Mo_isBarred_5 rfl 1 rfl hb ?_
  refine g_if_eq (pc' := 9) (tgt := 11) C d_Mo_isBarred_6 rfl rfl (fun h => ?_) (fun h => ?_)
  · replace hf := g_ip h hf
    refine g_aload_n (pc' := 12) C 0 d_Mo_isBarred_11 rfl rfl ?_
    refine g_get (pc' := 15) C kf_Mo 33 mw_4_171 d_Mo_isBarred_12 rfl 0 rfl (by decide) rfl ?_
    refine g_if_neb (pc' := 18) (tgt := 20) C d_Mo_isBarred_15 rfl rfl (fun h => ?_) (fun h => ?_)
    · replace hf := g_bt h hf
      refine g_iconst (pc' := 21) (v := 0) C d_Mo_isBarred_20 rfl rfl ?_
      refine g_istore_n (pc' := 22) (lv' := [(2, .int 0), (0, .ref a_o), (1, .int p1)]) C d_Mo_isBarred_21 rfl (by decide) rfl ?_
      refine g_lv (lv' := [(0, .ref a_o), (1, .int p1), (2, .int (0 : Int32))]) [1, 2, 0] rfl ?_
      exact w_Mo_isBarred_L22 (a_o := a_o) (a_o_had := a_o_had) (a_o_told := a_o_told) (a_o_barred := a_o_barred) (a_o_cost := a_o_cost) (a_o_last := a_o_last) (a_o_often := a_o_often) (a_o_changeOf := a_o_changeOf) (a_o_changeAt := a_o_changeAt) (a_o_before := a_o_before) (a_o_behind := a_o_behind) (a_o_tape := a_o_tape) (a_o_act := a_o_act) (a_o_with := a_o_with) (a_o_lineMany := a_o_lineMany) (a_o_testEnd := a_o_testEnd) (a_o_lineEnd := a_o_lineEnd) (a_o_facts := a_o_facts) (a_o_pile := a_o_pile) (a_o_way := a_o_way) (a_o_bestWay := a_o_bestWay) (a_o_wasHad := a_o_wasHad) (a_o_wasLast := a_o_wasLast) (a_o_keptHad := a_o_keptHad) (a_o_keptTold := a_o_keptTold) (a_o_keptLast := a_o_keptLast) (a_o_keptOften := a_o_keptOften) (a_o_kind := a_o_kind) (a_o_traced := a_o_traced) (a_o_holds := a_o_holds) (a_o_size := a_o_size) (a_o_elements := a_o_elements) (a_o_shifted := a_o_shifted) C   3000 p1 (0 : Int32) x_o_lamps x_o_facts x_o_lineMany x_o_testEnd x_o_act x_o_pile x_o_with x_o_lineEnd hf
    · replace hf := g_bf h hf
      refine g_iconst (pc' := 19) (v := 0) C d_Mo_isBarred_18 rfl rfl ?_
      replace hf := g_o2 hf; obtain ⟨h1, hf⟩ := hf; subst h1
      replace hf := g_o2 hf; obtain ⟨h1, hf⟩ := hf; subst h1
      replace hf := Option.some.inj hf; subst hf
      exact g_zret C d_Mo_isBarred_19 () rfl
  · replace hf := g_in h hf
    refine g_iconst (pc' := 10) (v := 1) C d_Mo_isBarred_9 rfl rfl ?_
    replace hf := g_o2 hf; obtain ⟨h1, hf⟩ := hf; subst h1
    replace hf := g_o2 hf; obtain ⟨h1, hf⟩ := hf; subst h1
    replace hf := Option.some.inj hf; subst hf
    exact g_zret C d_Mo_isBarred_10 () rfl
def y_Mo_findBarred : MethodName := ⟨"OneLampModel", "findBarred", "()V"⟩
theorem yy_Mo_findBarred : YV y_Mo_findBarred prog_13_method_44_code 2 none 0 := ⟨mw_6_14, mw_1_12, mw_6_13, tm_s (y := y_Mo_findBarred) (n := 58) (by decide +kernel), by decide +kernel, by decide +kernel, by decide +kernel⟩
theorem d_Mo_findBarred_0 : decode prog_13_method_44_code 0 = .ok (.iconst 0, 1) := by decide +kernel
theorem d_Mo_findBarred_1 : decode prog_13_method_44_code 1 = .ok (.istore_n 1, 1) := by decide +kernel
theorem d_Mo_findBarred_2 : decode prog_13_method_44_code 2 = .ok (.iload_n 1, 1) := by decide +kernel
theorem d_Mo_findBarred_3 : decode prog_13_method_44_code 3 = .ok (.aload_n 0, 1) := by decide +kernel
theorem d_Mo_findBarred_4 : decode prog_13_method_44_code 4 = .ok (.invokevirtual 117, 3) := by decide +kernel
theorem d_Mo_findBarred_7 : decode prog_13_method_44_code 7 = .ok (.if_icmp .ge 20, 3) := by decide +kernel
theorem d_Mo_findBarred_10 : decode prog_13_method_44_code 10 = .ok (.aload_n 0, 1) := by decide +kernel
theorem d_Mo_findBarred_11 : decode prog_13_method_44_code 11 = .ok (.getfield 20, 3) := by decide +kernel
theorem d_Mo_findBarred_14 : decode prog_13_method_44_code 14 = .ok (.iload_n 1, 1) := by decide +kernel
theorem d_Mo_findBarred_15 : decode prog_13_method_44_code 15 = .ok (.aload_n 0, 1) := by decide +kernel
theorem d_Mo_findBarred_16 : decode prog_13_method_44_code 16 = .ok (.iload_n 1, 1) := by decide +kernel
theorem d_Mo_findBarred_17 : decode prog_13_method_44_code 17 = .ok (.invokevirtual 257, 3) := by decide +kernel
theorem d_Mo_findBarred_20 : decode prog_13_method_44_code 20 = .ok (.bastore, 1) := by decide +kernel
theorem d_Mo_findBarred_21 : decode prog_13_method_44_code 21 = .ok (.iinc 1 1, 3) := by decide +kernel
theorem d_Mo_findBarred_24 : decode prog_13_method_44_code 24 = .ok (.goto (-22), 3) := by decide +kernel
theorem d_Mo_findBarred_27 : decode prog_13_method_44_code 27 = .ok (.return_, 1) := by decide +kernel
def f_Mo_findBarred_L2   : Nat → Int32 → Int32 → Bool → (Nat → Int32) → (Nat → Int32) → (Nat → Int32) → (Nat → Int32) → (Nat → Int32) → (Nat → Int32) → (Nat → Int32) → (Nat → Int32) → (Nat → Int32) → Option ((Nat → Int32) × (Nat → Int32) × (Nat → Int32))
  | 0, _, _, _, _, _, _, _, _, _, _, _, _ => none
  | n + 1, v1, x_o_lamps, x_o_hasLaw, x_o_told, x_o_facts, x_o_lineMany, x_o_testEnd, x_o_act, x_o_pile, x_o_with, x_o_lineEnd, x_o_barred =>
    (f_Mo_pictures  x_o_lamps).bind fun r1 =>
    if r1 ≤ v1 then
      (some (x_o_facts, x_o_pile, x_o_barred))
    else
      ((f_Mo_isBarred  v1 x_o_lamps x_o_hasLaw x_o_told x_o_facts x_o_lineMany x_o_testEnd x_o_act x_o_pile x_o_with x_o_lineEnd).bind fun (r3, u4, u5) =>
      if v1 < 0 ∨ 1024 ≤ Int32.toNatClampNeg v1 then none else
      f_Mo_findBarred_L2  n (v1 + 1) x_o_lamps x_o_hasLaw x_o_told u4 x_o_lineMany x_o_testEnd x_o_act u5 x_o_with x_o_lineEnd (upd x_o_barred (Int32.toNatClampNeg v1) (vp_nar .boolean (b2i r3))))
set_option maxRecDepth 20000 in
theorem w_Mo_findBarred_L2 {p : Program} {l : Launch} {e : Env} {s : State} {m : MethodId} {args : Array Value} {below : List Frame} {meth : Method} {c : Code} {D : va_G} {dA : Nat → ClassId} {A : Nat → Prop} (C : GC p s m args meth c prog_13_method_44_code 2 "OneLampModel" none D dA A) {a_o a_o_had a_o_told a_o_barred a_o_cost a_o_last a_o_often a_o_changeOf a_o_changeAt a_o_before a_o_behind a_o_tape a_o_act a_o_with a_o_lineMany a_o_testEnd a_o_lineEnd a_o_facts a_o_pile a_o_way a_o_bestWay a_o_wasHad a_o_wasLast a_o_keptHad a_o_keptTold a_o_keptLast a_o_keptOften a_o_kind a_o_traced a_o_holds a_o_size a_o_elements a_o_shifted : Nat} {x_o_code : Int32} {x_o_at : Int32} {x_o_night : Int32} {x_o_spent : Int32} {x_o_rest : Int32} {x_o_shy : Int32} {x_o_hasBegun : Bool} {x_o_doneMany : Int32} {x_o_undoneMany : Int32} {x_o_taped : Int32} {x_o_here : Int32} {x_o_fault : Int32} {x_o_open : Int32} {x_o_laid : Int32} {x_o_bestMany : Int32} {x_o_wasAt : Int32} {x_o_wasNight : Int32} {x_o_hasImage : Bool} {x_o_keptLamps : Int32} {x_o_keptAt : Int32} {x_o_keptNight : Int32} {x_o_keptSpent : Int32} {x_o_bodies : Int32} {x_o_traces : Int32} {o_x_o_facts : Nat → Int32} {o_x_o_pile : Nat → Int32} {o_x_o_barred : Nat → Int32}    : ∀ (n : Nat) (v1 : Int32) (x_o_lamps : Int32) (x_o_hasLaw : Bool) (x_o_told : Nat → Int32) (x_o_facts : Nat → Int32) (x_o_lineMany : Nat → Int32) (x_o_testEnd : Nat → Int32) (x_o_act : Nat → Int32) (x_o_pile : Nat → Int32) (x_o_with : Nat → Int32) (x_o_lineEnd : Nat → Int32) (x_o_barred : Nat → Int32), f_Mo_findBarred_L2   n v1 x_o_lamps x_o_hasLaw x_o_told x_o_facts x_o_lineMany x_o_testEnd x_o_act x_o_pile x_o_with x_o_lineEnd x_o_barred = some (o_x_o_facts, o_x_o_pile, o_x_o_barred) → GG p l e { frames := 4, cells := 0, slots := 0, locals := 93 } s m args below meth c 2 D A 0 0 (MQ below (cQ D A none (fun _ : Unit => [O_Mo a_o x_o_code x_o_lamps x_o_at x_o_night x_o_spent x_o_rest x_o_shy a_o_had a_o_told a_o_barred a_o_cost a_o_last a_o_often x_o_hasBegun x_o_doneMany x_o_undoneMany a_o_changeOf a_o_changeAt a_o_before a_o_behind a_o_tape x_o_taped x_o_here x_o_fault x_o_open x_o_laid a_o_act a_o_with a_o_lineMany a_o_testEnd a_o_lineEnd a_o_facts a_o_pile x_o_hasLaw a_o_way a_o_bestWay x_o_bestMany a_o_wasHad a_o_wasLast x_o_wasAt x_o_wasNight x_o_hasImage x_o_keptLamps x_o_keptAt x_o_keptNight x_o_keptSpent a_o_keptHad a_o_keptTold a_o_keptLast a_o_keptOften x_o_bodies a_o_kind x_o_traces a_o_traced a_o_holds a_o_size a_o_elements a_o_shifted, A_Z dA a_o_told 1024 x_o_told, A_I dA a_o_facts 4 o_x_o_facts, A_I dA a_o_lineMany 2 x_o_lineMany, A_S dA a_o_testEnd 122 x_o_testEnd, A_B dA a_o_act 260 x_o_act, A_I dA a_o_pile 130 o_x_o_pile, A_I dA a_o_with 260 x_o_with, A_S dA a_o_lineEnd 122 x_o_lineEnd, A_Z dA a_o_barred 1024 o_x_o_barred])) args s 0 0 A) 2 [(0, .ref a_o), (1, .int v1)] [] [O_Mo a_o x_o_code x_o_lamps x_o_at x_o_night x_o_spent x_o_rest x_o_shy a_o_had a_o_told a_o_barred a_o_cost a_o_last a_o_often x_o_hasBegun x_o_doneMany x_o_undoneMany a_o_changeOf a_o_changeAt a_o_before a_o_behind a_o_tape x_o_taped x_o_here x_o_fault x_o_open x_o_laid a_o_act a_o_with a_o_lineMany a_o_testEnd a_o_lineEnd a_o_facts a_o_pile x_o_hasLaw a_o_way a_o_bestWay x_o_bestMany a_o_wasHad a_o_wasLast x_o_wasAt x_o_wasNight x_o_hasImage x_o_keptLamps x_o_keptAt x_o_keptNight x_o_keptSpent a_o_keptHad a_o_keptTold a_o_keptLast a_o_keptOften x_o_bodies a_o_kind x_o_traces a_o_traced a_o_holds a_o_size a_o_elements a_o_shifted, A_Z dA a_o_told 1024 x_o_told, A_I dA a_o_facts 4 x_o_facts, A_I dA a_o_lineMany 2 x_o_lineMany, A_S dA a_o_testEnd 122 x_o_testEnd, A_B dA a_o_act 260 x_o_act, A_I dA a_o_pile 130 x_o_pile, A_I dA a_o_with 260 x_o_with, A_S dA a_o_lineEnd 122 x_o_lineEnd, A_Z dA a_o_barred 1024 x_o_barred] := by
  intro n
  induction n with
  | zero =>
    intro v1 x_o_lamps x_o_hasLaw x_o_told x_o_facts x_o_lineMany x_o_testEnd x_o_act x_o_pile x_o_with x_o_lineEnd x_o_barred hf
    cases hf
  | succ n ih =>
    intro v1 x_o_lamps x_o_hasLaw x_o_told x_o_facts x_o_lineMany x_o_testEnd x_o_act x_o_pile x_o_with x_o_lineEnd x_o_barred hf
    unfold f_Mo_findBarred_L2 at hf
    refine g_iload_n (pc' := 3) C 1 d_Mo_findBarred_2 rfl rfl ?_
    refine g_aload_n (pc' := 4) C 0 d_Mo_findBarred_3 rfl rfl ?_
    replace hf := g_bi hf; obtain ⟨r1, hc2, hf⟩ := hf
    refine g_callV (pc' := 7) (st1 := [.int r1, .int v1]) (ws1 := [O_Mo a_o x_o_code x_o_lamps x_o_at x_o_night x_o_spent x_o_rest x_o_shy a_o_had a_o_told a_o_barred a_o_cost a_o_last a_o_often x_o_hasBegun x_o_doneMany x_o_undoneMany a_o_changeOf a_o_changeAt a_o_before a_o_behind a_o_tape x_o_taped x_o_here x_o_fault x_o_open x_o_laid a_o_act a_o_with a_o_lineMany a_o_testEnd a_o_lineEnd a_o_facts a_o_pile x_o_hasLaw a_o_way a_o_bestWay x_o_bestMany a_o_wasHad a_o_wasLast x_o_wasAt x_o_wasNight x_o_hasImage x_o_keptLamps x_o_keptAt x_o_keptNight x_o_keptSpent a_o_keptHad a_o_keptTold a_o_keptLast a_o_keptOften x_o_bodies a_o_kind x_o_traces a_o_traced a_o_holds a_o_size a_o_elements a_o_shifted, A_Z dA a_o_told 1024 x_o_told, A_I dA a_o_facts 4 x_o_facts, A_I dA a_o_lineMany 2 x_o_lineMany, A_S dA a_o_testEnd 122 x_o_testEnd, A_B dA a_o_act 260 x_o_act, A_I dA a_o_pile 130 x_o_pile, A_I dA a_o_with 260 x_o_with, A_S dA a_o_lineEnd 122 x_o_lineEnd, A_Z dA a_o_barred 1024 x_o_barred]) C (c_Mo_pictures (l := l) (D := D) (dA := dA) (a_o := a_o) (a_o_had := a_o_had) (a_o_told := a_o_told) (a_o_barred := a_o_barred) (a_o_cost := a_o_cost) (a_o_last := a_o_last) (a_o_often := a_o_often) (a_o_changeOf := a_o_changeOf) (a_o_changeAt := a_o_changeAt) (a_o_before := a_o_before) (a_o_behind := a_o_behind) (a_o_tape := a_o_tape) (a_o_act := a_o_act) (a_o_with := a_o_with) (a_o_lineMany := a_o_lineMany) (a_o_testEnd := a_o_testEnd) (a_o_lineEnd := a_o_lineEnd) (a_o_facts := a_o_facts) (a_o_pile := a_o_pile) (a_o_way := a_o_way) (a_o_bestWay := a_o_bestWay) (a_o_wasHad := a_o_wasHad) (a_o_wasLast := a_o_wasLast) (a_o_keptHad := a_o_keptHad) (a_o_keptTold := a_o_keptTold) (a_o_keptLast := a_o_keptLast) (a_o_keptOften := a_o_keptOften) (a_o_kind := a_o_kind) (a_o_traced := a_o_traced) (a_o_holds := a_o_holds) (a_o_size := a_o_size) (a_o_elements := a_o_elements) (a_o_shifted := a_o_shifted) (x_o_code := x_o_code) (x_o_at := x_o_at) (x_o_night := x_o_night) (x_o_spent := x_o_spent) (x_o_rest := x_o_rest) (x_o_shy := x_o_shy) (x_o_hasBegun := x_o_hasBegun) (x_o_doneMany := x_o_doneMany) (x_o_undoneMany := x_o_undoneMany) (x_o_taped := x_o_taped) (x_o_here := x_o_here) (x_o_fault := x_o_fault) (x_o_open := x_o_open) (x_o_laid := x_o_laid) (x_o_hasLaw := x_o_hasLaw) (x_o_bestMany := x_o_bestMany) (x_o_wasAt := x_o_wasAt) (x_o_wasNight := x_o_wasNight) (x_o_hasImage := x_o_hasImage) (x_o_keptLamps := x_o_keptLamps) (x_o_keptAt := x_o_keptAt) (x_o_keptNight := x_o_keptNight) (x_o_keptSpent := x_o_keptSpent) (x_o_bodies := x_o_bodies) (x_o_traces := x_o_traces)   hc2) yy_Mo_pictures kf_Mo rfl mw_5_95 d_Mo_findBarred_4 rfl [.int v1] rfl rfl (Nat.le_of_ble_eq_true rfl) ⟨Nat.le_of_ble_eq_true rfl, Nat.le_of_ble_eq_true rfl⟩ rfl rfl (Nat.zero_le _) (Nat.zero_le _) 0 rfl [0] rfl (by decide +kernel) rfl (g_lay_sel _ _ _ _ [(0, true), (1, false), (2, false), (3, false), (4, false), (5, false), (6, false), (7, false), (8, false), (9, false)] (by decide +kernel) rfl (by decide +kernel) rfl rfl) rfl ?_
    refine g_icmp_ge (pc' := 10) (tgt := 27) C d_Mo_findBarred_7 rfl rfl (fun h => ?_) (fun h => ?_)
    · replace hf := g_ip h hf
      replace hf := g_o2 hf; obtain ⟨h1, hf⟩ := hf; subst h1
      replace hf := g_o2 hf; obtain ⟨h1, hf⟩ := hf; subst h1
      replace hf := Option.some.inj hf; subst hf
      exact g_vret C d_Mo_findBarred_27 () rfl
    · replace hf := g_in h hf
      refine g_aload_n (pc' := 11) C 0 d_Mo_findBarred_10 rfl rfl ?_
      refine g_get (pc' := 14) C kf_Mo 9 mw_4_147 d_Mo_findBarred_11 rfl 0 rfl (by decide) rfl ?_
      refine g_iload_n (pc' := 15) C 1 d_Mo_findBarred_14 rfl rfl ?_
      refine g_aload_n (pc' := 16) C 0 d_Mo_findBarred_15 rfl rfl ?_
      refine g_iload_n (pc' := 17) C 1 d_Mo_findBarred_16 rfl rfl ?_
      replace hf := g_bi hf; obtain ⟨⟨r3, u4, u5⟩, hc6, hf⟩ := hf
      dsimp only at hf
      refine g_callV (pc' := 20) (st1 := [.int (b2i r3), .int v1, .ref a_o_barred]) (ws1 := [O_Mo a_o x_o_code x_o_lamps x_o_at x_o_night x_o_spent x_o_rest x_o_shy a_o_had a_o_told a_o_barred a_o_cost a_o_last a_o_often x_o_hasBegun x_o_doneMany x_o_undoneMany a_o_changeOf a_o_changeAt a_o_before a_o_behind a_o_tape x_o_taped x_o_here x_o_fault x_o_open x_o_laid a_o_act a_o_with a_o_lineMany a_o_testEnd a_o_lineEnd a_o_facts a_o_pile x_o_hasLaw a_o_way a_o_bestWay x_o_bestMany a_o_wasHad a_o_wasLast x_o_wasAt x_o_wasNight x_o_hasImage x_o_keptLamps x_o_keptAt x_o_keptNight x_o_keptSpent a_o_keptHad a_o_keptTold a_o_keptLast a_o_keptOften x_o_bodies a_o_kind x_o_traces a_o_traced a_o_holds a_o_size a_o_elements a_o_shifted, A_Z dA a_o_told 1024 x_o_told, A_I dA a_o_facts 4 u4, A_I dA a_o_lineMany 2 x_o_lineMany, A_S dA a_o_testEnd 122 x_o_testEnd, A_B dA a_o_act 260 x_o_act, A_I dA a_o_pile 130 u5, A_I dA a_o_with 260 x_o_with, A_S dA a_o_lineEnd 122 x_o_lineEnd, A_Z dA a_o_barred 1024 x_o_barred]) C (c_Mo_isBarred (l := l) (D := D) (dA := dA) (a_o := a_o) (a_o_had := a_o_had) (a_o_told := a_o_told) (a_o_barred := a_o_barred) (a_o_cost := a_o_cost) (a_o_last := a_o_last) (a_o_often := a_o_often) (a_o_changeOf := a_o_changeOf) (a_o_changeAt := a_o_changeAt) (a_o_before := a_o_before) (a_o_behind := a_o_behind) (a_o_tape := a_o_tape) (a_o_act := a_o_act) (a_o_with := a_o_with) (a_o_lineMany := a_o_lineMany) (a_o_testEnd := a_o_testEnd) (a_o_lineEnd := a_o_lineEnd) (a_o_facts := a_o_facts) (a_o_pile := a_o_pile) (a_o_way := a_o_way) (a_o_bestWay := a_o_bestWay) (a_o_wasHad := a_o_wasHad) (a_o_wasLast := a_o_wasLast) (a_o_keptHad := a_o_keptHad) (a_o_keptTold := a_o_keptTold) (a_o_keptLast := a_o_keptLast) (a_o_keptOften := a_o_keptOften) (a_o_kind := a_o_kind) (a_o_traced := a_o_traced) (a_o_holds := a_o_holds) (a_o_size := a_o_size) (a_o_elements := a_o_elements) (a_o_shifted := a_o_shifted) (x_o_code := x_o_code) (x_o_at := x_o_at) (x_o_night := x_o_night) (x_o_spent := x_o_spent) (x_o_rest := x_o_rest) (x_o_shy := x_o_shy) (x_o_hasBegun := x_o_hasBegun) (x_o_doneMany := x_o_doneMany) (x_o_undoneMany := x_o_undoneMany) (x_o_taped := x_o_taped) (x_o_here := x_o_here) (x_o_fault := x_o_fault) (x_o_open := x_o_open) (x_o_laid := x_o_laid) (x_o_bestMany := x_o_bestMany) (x_o_wasAt := x_o_wasAt) (x_o_wasNight := x_o_wasNight) (x_o_hasImage := x_o_hasImage) (x_o_keptLamps := x_o_keptLamps) (x_o_keptAt := x_o_keptAt) (x_o_keptNight := x_o_keptNight) (x_o_keptSpent := x_o_keptSpent) (x_o_bodies := x_o_bodies) (x_o_traces := x_o_traces)   hc6) yy_Mo_isBarred kf_Mo rfl mw_5_221 d_Mo_findBarred_17 rfl [.int v1, .ref a_o_barred] rfl rfl (Nat.le_of_ble_eq_true rfl) ⟨Nat.le_of_ble_eq_true rfl, Nat.le_of_ble_eq_true rfl⟩ rfl rfl (Nat.zero_le _) (Nat.zero_le _) 0 rfl [0, 1, 2, 3, 4, 5, 6, 7, 8] rfl (by decide +kernel) rfl (g_lay_sel _ _ _ _ [(0, true), (1, true), (2, true), (3, true), (4, true), (5, true), (6, true), (7, true), (8, true), (9, false)] (by decide +kernel) rfl (by decide +kernel) rfl rfl) rfl ?_
      have hb := g_ck hf
      replace hf := g_in hb hf
      refine g_zast (pc' := 21) (ws' := [O_Mo a_o x_o_code x_o_lamps x_o_at x_o_night x_o_spent x_o_rest x_o_shy a_o_had a_o_told a_o_barred a_o_cost a_o_last a_o_often x_o_hasBegun x_o_doneMany x_o_undoneMany a_o_changeOf a_o_changeAt a_o_before a_o_behind a_o_tape x_o_taped x_o_here x_o_fault x_o_open x_o_laid a_o_act a_o_with a_o_lineMany a_o_testEnd a_o_lineEnd a_o_facts a_o_pile x_o_hasLaw a_o_way a_o_bestWay x_o_bestMany a_o_wasHad a_o_wasLast x_o_wasAt x_o_wasNight x_o_hasImage x_o_keptLamps x_o_keptAt x_o_keptNight x_o_keptSpent a_o_keptHad a_o_keptTold a_o_keptLast a_o_keptOften x_o_bodies a_o_kind x_o_traces a_o_traced a_o_holds a_o_size a_o_elements a_o_shifted, A_Z dA a_o_told 1024 x_o_told, A_I dA a_o_facts 4 u4, A_I dA a_o_lineMany 2 x_o_lineMany, A_S dA a_o_testEnd 122 x_o_testEnd, A_B dA a_o_act 260 x_o_act, A_I dA a_o_pile 130 u5, A_I dA a_o_with 260 x_o_with, A_S dA a_o_lineEnd 122 x_o_lineEnd, A_Z dA a_o_barred 1024 (upd x_o_barred (Int32.toNatClampNeg v1) (vp_nar .boolean (b2i r3)))]) C d_Mo_findBarred_20 rfl 9 rfl hb rfl ?_
      refine g_iinc (pc' := 24) (j := 1) (v := (v1 + 1)) (lv' := [(1, .int (v1 + 1)), (0, .ref a_o)]) C d_Mo_findBarred_21 rfl rfl rfl (by decide) rfl ?_
      refine g_goto (tgt := 2) C d_Mo_findBarred_24 rfl ?_
      refine g_lv (lv' := [(0, .ref a_o), (1, .int (v1 + 1))]) [1, 0] rfl ?_
      exact ih (v1 + 1) x_o_lamps x_o_hasLaw x_o_told u4 x_o_lineMany x_o_testEnd x_o_act u5 x_o_with x_o_lineEnd (upd x_o_barred (Int32.toNatClampNeg v1) (vp_nar .boolean (b2i r3))) hf
def f_Mo_findBarred  (x_o_lamps : Int32) (x_o_hasLaw : Bool) (x_o_told : Nat → Int32) (x_o_facts : Nat → Int32) (x_o_lineMany : Nat → Int32) (x_o_testEnd : Nat → Int32) (x_o_act : Nat → Int32) (x_o_pile : Nat → Int32) (x_o_with : Nat → Int32) (x_o_lineEnd : Nat → Int32) (x_o_barred : Nat → Int32) : Option ((Nat → Int32) × (Nat → Int32) × (Nat → Int32)) :=
  f_Mo_findBarred_L2  3000 (0 : Int32) x_o_lamps x_o_hasLaw x_o_told x_o_facts x_o_lineMany x_o_testEnd x_o_act x_o_pile x_o_with x_o_lineEnd x_o_barred
set_option maxRecDepth 20000 in
theorem c_Mo_findBarred {l : Launch} {D : va_G} {dA : Nat → ClassId} {a_o a_o_had a_o_told a_o_barred a_o_cost a_o_last a_o_often a_o_changeOf a_o_changeAt a_o_before a_o_behind a_o_tape a_o_act a_o_with a_o_lineMany a_o_testEnd a_o_lineEnd a_o_facts a_o_pile a_o_way a_o_bestWay a_o_wasHad a_o_wasLast a_o_keptHad a_o_keptTold a_o_keptLast a_o_keptOften a_o_kind a_o_traced a_o_holds a_o_size a_o_elements a_o_shifted : Nat} {x_o_code : Int32} {x_o_at : Int32} {x_o_night : Int32} {x_o_spent : Int32} {x_o_rest : Int32} {x_o_shy : Int32} {x_o_hasBegun : Bool} {x_o_doneMany : Int32} {x_o_undoneMany : Int32} {x_o_taped : Int32} {x_o_here : Int32} {x_o_fault : Int32} {x_o_open : Int32} {x_o_laid : Int32} {x_o_bestMany : Int32} {x_o_wasAt : Int32} {x_o_wasNight : Int32} {x_o_hasImage : Bool} {x_o_keptLamps : Int32} {x_o_keptAt : Int32} {x_o_keptNight : Int32} {x_o_keptSpent : Int32} {x_o_bodies : Int32} {x_o_traces : Int32} {x_o_lamps : Int32} {x_o_hasLaw : Bool} {x_o_told : Nat → Int32} {x_o_facts : Nat → Int32} {x_o_lineMany : Nat → Int32} {x_o_testEnd : Nat → Int32} {x_o_act : Nat → Int32} {x_o_pile : Nat → Int32} {x_o_with : Nat → Int32} {x_o_lineEnd : Nat → Int32} {x_o_barred : Nat → Int32} {o_x_o_facts : Nat → Int32} {o_x_o_pile : Nat → Int32} {o_x_o_barred : Nat → Int32}   (hf : f_Mo_findBarred  x_o_lamps x_o_hasLaw x_o_told x_o_facts x_o_lineMany x_o_testEnd x_o_act x_o_pile x_o_with x_o_lineEnd x_o_barred = some (o_x_o_facts, o_x_o_pile, o_x_o_barred)) : CT l y_Mo_findBarred prog_13_method_44_code 2 none { frames := 4, cells := 0, slots := 0, locals := 93 } D dA [.ref a_o] [O_Mo a_o x_o_code x_o_lamps x_o_at x_o_night x_o_spent x_o_rest x_o_shy a_o_had a_o_told a_o_barred a_o_cost a_o_last a_o_often x_o_hasBegun x_o_doneMany x_o_undoneMany a_o_changeOf a_o_changeAt a_o_before a_o_behind a_o_tape x_o_taped x_o_here x_o_fault x_o_open x_o_laid a_o_act a_o_with a_o_lineMany a_o_testEnd a_o_lineEnd a_o_facts a_o_pile x_o_hasLaw a_o_way a_o_bestWay x_o_bestMany a_o_wasHad a_o_wasLast x_o_wasAt x_o_wasNight x_o_hasImage x_o_keptLamps x_o_keptAt x_o_keptNight x_o_keptSpent a_o_keptHad a_o_keptTold a_o_keptLast a_o_keptOften x_o_bodies a_o_kind x_o_traces a_o_traced a_o_holds a_o_size a_o_elements a_o_shifted, A_Z dA a_o_told 1024 x_o_told, A_I dA a_o_facts 4 x_o_facts, A_I dA a_o_lineMany 2 x_o_lineMany, A_S dA a_o_testEnd 122 x_o_testEnd, A_B dA a_o_act 260 x_o_act, A_I dA a_o_pile 130 x_o_pile, A_I dA a_o_with 260 x_o_with, A_S dA a_o_lineEnd 122 x_o_lineEnd, A_Z dA a_o_barred 1024 x_o_barred] none (fun _ : Unit => [O_Mo a_o x_o_code x_o_lamps x_o_at x_o_night x_o_spent x_o_rest x_o_shy a_o_had a_o_told a_o_barred a_o_cost a_o_last a_o_often x_o_hasBegun x_o_doneMany x_o_undoneMany a_o_changeOf a_o_changeAt a_o_before a_o_behind a_o_tape x_o_taped x_o_here x_o_fault x_o_open x_o_laid a_o_act a_o_with a_o_lineMany a_o_testEnd a_o_lineEnd a_o_facts a_o_pile x_o_hasLaw a_o_way a_o_bestWay x_o_bestMany a_o_wasHad a_o_wasLast x_o_wasAt x_o_wasNight x_o_hasImage x_o_keptLamps x_o_keptAt x_o_keptNight x_o_keptSpent a_o_keptHad a_o_keptTold a_o_keptLast a_o_keptOften x_o_bodies a_o_kind x_o_traces a_o_traced a_o_holds a_o_size a_o_elements a_o_shifted, A_Z dA a_o_told 1024 x_o_told, A_I dA a_o_facts 4 o_x_o_facts, A_I dA a_o_lineMany 2 x_o_lineMany, A_S dA a_o_testEnd 122 x_o_testEnd, A_B dA a_o_act 260 x_o_act, A_I dA a_o_pile 130 o_x_o_pile, A_I dA a_o_with 260 x_o_with, A_S dA a_o_lineEnd 122 x_o_lineEnd, A_Z dA a_o_barred 1024 o_x_o_barred]) := by
  refine ct_intro "OneLampModel" rfl (by decide +kernel) (Nat.le_of_ble_eq_true rfl) [(0, .ref a_o)] rfl (fun _ C => ?_)
  unfold f_Mo_findBarred at hf
  refine g_iconst (pc' := 1) (v := 0) C d_Mo_findBarred_0 rfl rfl ?_
  refine g_istore_n (pc' := 2) (lv' := [(1, .int 0), (0, .ref a_o)]) C d_Mo_findBarred_1 rfl (by decide) rfl ?_
  refine g_lv (lv' := [(0, .ref a_o), (1, .int (0 : Int32))]) [1, 0] rfl ?_
  exact w_Mo_findBarred_L2 (a_o := a_o) (a_o_had := a_o_had) (a_o_told := a_o_told) (a_o_barred := a_o_barred) (a_o_cost := a_o_cost) (a_o_last := a_o_last) (a_o_often := a_o_often) (a_o_changeOf := a_o_changeOf) (a_o_changeAt := a_o_changeAt) (a_o_before := a_o_before) (a_o_behind := a_o_behind) (a_o_tape := a_o_tape) (a_o_act := a_o_act) (a_o_with := a_o_with) (a_o_lineMany := a_o_lineMany) (a_o_testEnd := a_o_testEnd) (a_o_lineEnd := a_o_lineEnd) (a_o_facts := a_o_facts) (a_o_pile := a_o_pile) (a_o_way := a_o_way) (a_o_bestWay := a_o_bestWay) (a_o_wasHad := a_o_wasHad) (a_o_wasLast := a_o_wasLast) (a_o_keptHad := a_o_keptHad) (a_o_keptTold := a_o_keptTold) (a_o_keptLast := a_o_keptLast) (a_o_keptOften := a_o_keptOften) (a_o_kind := a_o_kind) (a_o_traced := a_o_traced) (a_o_holds := a_o_holds) (a_o_size := a_o_size) (a_o_elements := a_o_elements) (a_o_shifted := a_o_shifted) C   3000 (0 : Int32) x_o_lamps x_o_hasLaw x_o_told x_o_facts x_o_lineMany x_o_testEnd x_o_act x_o_pile x_o_with x_o_lineEnd x_o_barred hf
