/-! what the walks use of pure logic -/
theorem g_ip {α : Sort _} {c : Prop} [Decidable c] {a b x : α} (h : c) (hf : (if c then a else b) = x) : a = x := (if_pos h).symm.trans hf
theorem g_in {α : Sort _} {c : Prop} [Decidable c] {a b x : α} (h : ¬ c) (hf : (if c then a else b) = x) : b = x := (if_neg h).symm.trans hf
theorem g_bt {α : Sort _} {c : Bool} {a b x : α} (h : c = true) (hf : (if c = true then a else b) = x) : a = x := (if_pos h).symm.trans hf
theorem g_bf {α : Sort _} {c : Bool} {a b x : α} (h : c = false) (hf : (if c = true then a else b) = x) : b = x := (if_neg (by rw [h]; decide)).symm.trans hf
theorem g_ck {α : Type _} {c : Prop} [Decidable c] {a : Option α} {o : α} (hf : (if c then none else a) = some o) : ¬ c := fun h => by rw [if_pos h] at hf; cases hf
theorem g_bi {α β : Type _} {x : Option α} {k : α → Option β} {o : β} (h : x.bind k = some o) : ∃ a, x = some a ∧ k a = some o := by
  cases x with
  | none => cases h
  | some a => exact ⟨a, rfl, h⟩
theorem g_cp {sp dp n : Int32} {n0 n1 : Nat} (h : ¬ (sp < 0 ∨ dp < 0 ∨ n < 0 ∨ n0 < sp.toNatClampNeg + n.toNatClampNeg ∨ n1 < dp.toNatClampNeg + n.toNatClampNeg)) : ¬ sp < 0 ∧ ¬ dp < 0 ∧ ¬ n < 0 ∧ sp.toNatClampNeg + n.toNatClampNeg ≤ n0 ∧ dp.toNatClampNeg + n.toNatClampNeg ≤ n1 :=
  ⟨fun z => h (Or.inl z), fun z => h (Or.inr (Or.inl z)), fun z => h (Or.inr (Or.inr (Or.inl z))), Nat.not_lt.mp fun z => h (Or.inr (Or.inr (Or.inr (Or.inl z)))), Nat.not_lt.mp fun z => h (Or.inr (Or.inr (Or.inr (Or.inr z))))⟩
theorem b2i_fit (b : Bool) : fits .boolean (.int (b2i b)) = true := by cases b <;> rfl
theorem mw_1_2 : (Cond.initialized "OneLamp$Wall") ∈ g_tbl := tm_1 (List.mem_of_getElem? (i := 2) rfl) rfl
theorem mw_1_3 : (Cond.initialized "OneLamp$Pictures") ∈ g_tbl := tm_1 (List.mem_of_getElem? (i := 3) rfl) rfl
theorem mw_1_4 : (Cond.initialized "java/util/Arrays") ∈ g_tbl := tm_1 (List.mem_of_getElem? (i := 4) rfl) rfl
theorem mw_1_37 : (Cond.fieldLink "OneLamp$Pictures" 11 "OneLamp$Pictures" "words" "[J") ∈ g_tbl := tm_1 (List.mem_of_getElem? (i := 37) rfl) rfl
theorem mw_1_38 : (Cond.laysFinal "OneLamp$Pictures" "OneLamp$Pictures" "words" "[J") ∈ g_tbl := tm_1 (List.mem_of_getElem? (i := 38) rfl) rfl
theorem mw_1_53 : (Cond.methodLink "OneLamp$Wall" 48 ⟨"OneLamp$Pictures", "add", "(I)V"⟩) ∈ g_tbl := tm_1 (List.mem_of_getElem? (i := 53) rfl) rfl
theorem mw_1_54 : (Cond.instanceMethod ⟨"OneLamp$Pictures", "add", "(I)V"⟩) ∈ g_tbl := tm_1 (List.mem_of_getElem? (i := 54) rfl) rfl
theorem mw_1_55 : (Cond.selects "OneLamp$Pictures" ⟨"OneLamp$Pictures", "add", "(I)V"⟩ ⟨"OneLamp$Pictures", "add", "(I)V"⟩) ∈ g_tbl := tm_1 (List.mem_of_getElem? (i := 55) rfl) rfl
theorem mw_1_56 : (Cond.code ⟨"OneLamp$Pictures", "add", "(I)V"⟩ prog_5_method_4_code 2 (Option.none : Option Jvm.ClassFile.FieldType)) ∈ g_tbl := tm_1 (List.mem_of_getElem? (i := 56) rfl) rfl
theorem mw_1_57 : (Cond.methodLink "OneLamp$Pictures" 15 ⟨"OneLamp$Pictures", "fits", "(I)Z"⟩) ∈ g_tbl := tm_1 (List.mem_of_getElem? (i := 57) rfl) rfl
theorem mw_1_58 : (Cond.static ⟨"OneLamp$Pictures", "fits", "(I)Z"⟩) ∈ g_tbl := tm_1 (List.mem_of_getElem? (i := 58) rfl) rfl
theorem mw_1_59 : (Cond.code ⟨"OneLamp$Pictures", "fits", "(I)Z"⟩ prog_5_method_2_code 1 (Option.some .boolean)) ∈ g_tbl := tm_1 (List.mem_of_getElem? (i := 59) rfl) rfl
theorem mw_1_61 : (Cond.static ⟨"java/util/Arrays", "fill", "([II)V"⟩) ∈ g_tbl := tm_1 (List.mem_of_getElem? (i := 61) rfl) rfl
theorem mw_1_62 : (Cond.code ⟨"java/util/Arrays", "fill", "([II)V"⟩ prog_17_method_103_code 4 (Option.none : Option Jvm.ClassFile.FieldType)) ∈ g_tbl := tm_1 (List.mem_of_getElem? (i := 62) rfl) rfl
theorem mw_1_63 : (Cond.fieldLink "OneLamp$Wall" 9 "OneLamp$Wall" "lamps" "I") ∈ g_tbl := tm_1 (List.mem_of_getElem? (i := 63) rfl) rfl
theorem mw_1_67 : (Cond.fieldLink "OneLamp$Wall" 36 "OneLamp$Wall" "picture" "I") ∈ g_tbl := tm_1 (List.mem_of_getElem? (i := 67) rfl) rfl
theorem mw_1_71 : (Cond.fieldLink "OneLamp$Wall" 39 "OneLamp$Wall" "night" "I") ∈ g_tbl := tm_1 (List.mem_of_getElem? (i := 71) rfl) rfl
theorem mw_1_76 : (Cond.fieldLink "OneLamp$Wall" 18 "OneLamp$Wall" "had" "LOneLamp$Pictures;") ∈ g_tbl := tm_1 (List.mem_of_getElem? (i := 76) rfl) rfl
theorem mw_1_83 : (Cond.fieldLink "OneLamp$Wall" 25 "OneLamp$Wall" "last" "[I") ∈ g_tbl := tm_1 (List.mem_of_getElem? (i := 83) rfl) rfl
theorem mw_1_85 : (Cond.lays "OneLamp$Wall" "OneLamp$Wall" "lamps" "I") ∈ g_tbl := tm_1 (List.mem_of_getElem? (i := 85) rfl) rfl
theorem mw_1_87 : (Cond.lays "OneLamp$Wall" "OneLamp$Wall" "picture" "I") ∈ g_tbl := tm_1 (List.mem_of_getElem? (i := 87) rfl) rfl
theorem mw_1_89 : (Cond.lays "OneLamp$Wall" "OneLamp$Wall" "night" "I") ∈ g_tbl := tm_1 (List.mem_of_getElem? (i := 89) rfl) rfl
theorem mw_1_91 : (Cond.lays "OneLamp$Wall" "OneLamp$Wall" "spent" "I") ∈ g_tbl := tm_1 (List.mem_of_getElem? (i := 91) rfl) rfl
theorem mw_1_93 : (Cond.laysFinal "OneLamp$Wall" "OneLamp$Wall" "had" "LOneLamp$Pictures;") ∈ g_tbl := tm_1 (List.mem_of_getElem? (i := 93) rfl) rfl
theorem mw_1_95 : (Cond.laysFinal "OneLamp$Wall" "OneLamp$Wall" "told" "LOneLamp$Pictures;") ∈ g_tbl := tm_1 (List.mem_of_getElem? (i := 95) rfl) rfl
theorem mw_1_97 : (Cond.laysFinal "OneLamp$Wall" "OneLamp$Wall" "last" "[I") ∈ g_tbl := tm_1 (List.mem_of_getElem? (i := 97) rfl) rfl
theorem mw_1_99 : (Cond.laysFinal "OneLamp$Wall" "OneLamp$Wall" "often" "[I") ∈ g_tbl := tm_1 (List.mem_of_getElem? (i := 99) rfl) rfl
theorem mw_1_119 : (Cond.laysFinal "OneLamp$Law" "OneLamp$Law" "code" "[I") ∈ g_tbl := tm_1 (List.mem_of_getElem? (i := 119) rfl) rfl
theorem mw_1_121 : (Cond.lays "OneLamp$Law" "OneLamp$Law" "length" "I") ∈ g_tbl := tm_1 (List.mem_of_getElem? (i := 121) rfl) rfl
theorem mw_1_123 : (Cond.laysFinal "OneLamp$Law" "OneLamp$Law" "stack" "[I") ∈ g_tbl := tm_1 (List.mem_of_getElem? (i := 123) rfl) rfl
theorem mw_1_125 : (Cond.lays "OneLamp$Law" "OneLamp$Law" "top" "I") ∈ g_tbl := tm_1 (List.mem_of_getElem? (i := 125) rfl) rfl
theorem mw_1_138 : (Cond.lays "OneLamp$Rules" "OneLamp$Rules" "rest" "I") ∈ g_tbl := tm_1 (List.mem_of_getElem? (i := 138) rfl) rfl
theorem mw_1_140 : (Cond.lays "OneLamp$Rules" "OneLamp$Rules" "shy" "I") ∈ g_tbl := tm_1 (List.mem_of_getElem? (i := 140) rfl) rfl
theorem mw_1_142 : (Cond.laysFinal "OneLamp$Rules" "OneLamp$Rules" "law" "LOneLamp$Law;") ∈ g_tbl := tm_1 (List.mem_of_getElem? (i := 142) rfl) rfl
theorem mw_1_144 : (Cond.laysFinal "OneLamp$Rules" "OneLamp$Rules" "asked" "LOneLamp$Pictures;") ∈ g_tbl := tm_1 (List.mem_of_getElem? (i := 144) rfl) rfl
theorem mw_1_146 : (Cond.laysFinal "OneLamp$Rules" "OneLamp$Rules" "forbidden" "LOneLamp$Pictures;") ∈ g_tbl := tm_1 (List.mem_of_getElem? (i := 146) rfl) rfl
theorem mw_1_148 : (Cond.lays "OneLamp$Rules" "OneLamp$Rules" "askedForLamps" "I") ∈ g_tbl := tm_1 (List.mem_of_getElem? (i := 148) rfl) rfl
theorem mw_1_165 : (Cond.laysFinal "OneLamp$Tape" "OneLamp$Tape" "letters" "[I") ∈ g_tbl := tm_1 (List.mem_of_getElem? (i := 165) rfl) rfl
theorem mw_1_167 : (Cond.lays "OneLamp$Tape" "OneLamp$Tape" "length" "I") ∈ g_tbl := tm_1 (List.mem_of_getElem? (i := 167) rfl) rfl
theorem mw_1_169 : (Cond.laysFinal "OneLamp$Tape" "OneLamp$Tape" "code" "[I") ∈ g_tbl := tm_1 (List.mem_of_getElem? (i := 169) rfl) rfl
theorem mw_1_171 : (Cond.lays "OneLamp$Tape" "OneLamp$Tape" "codeLength" "I") ∈ g_tbl := tm_1 (List.mem_of_getElem? (i := 171) rfl) rfl
theorem mw_1_173 : (Cond.lays "OneLamp$Tape" "OneLamp$Tape" "at" "I") ∈ g_tbl := tm_1 (List.mem_of_getElem? (i := 173) rfl) rfl
theorem mw_1_192 : (Cond.laysFinal "OneLamp$Costs" "OneLamp$Costs" "prices" "[I") ∈ g_tbl := tm_1 (List.mem_of_getElem? (i := 192) rfl) rfl
theorem mw_1_194 : (Cond.laysFinal "OneLamp$Costs" "OneLamp$Costs" "lamps" "[I") ∈ g_tbl := tm_1 (List.mem_of_getElem? (i := 194) rfl) rfl
theorem mw_1_196 : (Cond.laysFinal "OneLamp$Costs" "OneLamp$Costs" "before" "[I") ∈ g_tbl := tm_1 (List.mem_of_getElem? (i := 196) rfl) rfl
theorem mw_1_198 : (Cond.laysFinal "OneLamp$Costs" "OneLamp$Costs" "after" "[I") ∈ g_tbl := tm_1 (List.mem_of_getElem? (i := 198) rfl) rfl
theorem mw_1_200 : (Cond.laysFinal "OneLamp$Costs" "OneLamp$Costs" "sorted" "[I") ∈ g_tbl := tm_1 (List.mem_of_getElem? (i := 200) rfl) rfl
theorem mw_1_202 : (Cond.lays "OneLamp$Costs" "OneLamp$Costs" "done" "I") ∈ g_tbl := tm_1 (List.mem_of_getElem? (i := 202) rfl) rfl
theorem mw_1_204 : (Cond.lays "OneLamp$Costs" "OneLamp$Costs" "undone" "I") ∈ g_tbl := tm_1 (List.mem_of_getElem? (i := 204) rfl) rfl
theorem mw_1_221 : (Cond.laysFinal "OneLamp$Thought" "OneLamp$Thought" "wall" "LOneLamp$Wall;") ∈ g_tbl := tm_1 (List.mem_of_getElem? (i := 221) rfl) rfl
theorem mw_1_223 : (Cond.laysFinal "OneLamp$Thought" "OneLamp$Thought" "way" "[I") ∈ g_tbl := tm_1 (List.mem_of_getElem? (i := 223) rfl) rfl
theorem mw_1_225 : (Cond.laysFinal "OneLamp$Thought" "OneLamp$Thought" "best" "[I") ∈ g_tbl := tm_1 (List.mem_of_getElem? (i := 225) rfl) rfl
theorem mw_1_227 : (Cond.lays "OneLamp$Thought" "OneLamp$Thought" "bestLength" "I") ∈ g_tbl := tm_1 (List.mem_of_getElem? (i := 227) rfl) rfl
theorem mw_1_229 : (Cond.lays "OneLamp$Thought" "OneLamp$Thought" "open" "I") ∈ g_tbl := tm_1 (List.mem_of_getElem? (i := 229) rfl) rfl
theorem mw_1_231 : (Cond.lays "OneLamp$Thought" "OneLamp$Thought" "found" "I") ∈ g_tbl := tm_1 (List.mem_of_getElem? (i := 231) rfl) rfl
theorem mw_2_7 : (Cond.laysFinal "OneLamp$Acts" "OneLamp$Acts" "kinds" "[I") ∈ g_tbl := tm_2 (List.mem_of_getElem? (i := 7) rfl) rfl
theorem mw_2_9 : (Cond.lays "OneLamp$Acts" "OneLamp$Acts" "bodies" "I") ∈ g_tbl := tm_2 (List.mem_of_getElem? (i := 9) rfl) rfl
theorem mw_2_11 : (Cond.laysFinal "OneLamp$Acts" "OneLamp$Acts" "trace" "[I") ∈ g_tbl := tm_2 (List.mem_of_getElem? (i := 11) rfl) rfl
theorem mw_2_13 : (Cond.lays "OneLamp$Acts" "OneLamp$Acts" "ran" "I") ∈ g_tbl := tm_2 (List.mem_of_getElem? (i := 13) rfl) rfl
theorem mw_2_15 : (Cond.lays "OneLamp$Acts" "OneLamp$Acts" "number" "I") ∈ g_tbl := tm_2 (List.mem_of_getElem? (i := 15) rfl) rfl
theorem mw_2_33 : (Cond.lays "OneLamp$Shelf" "OneLamp$Shelf" "holds" "I") ∈ g_tbl := tm_2 (List.mem_of_getElem? (i := 33) rfl) rfl
theorem mw_2_35 : (Cond.lays "OneLamp$Shelf" "OneLamp$Shelf" "body" "I") ∈ g_tbl := tm_2 (List.mem_of_getElem? (i := 35) rfl) rfl
theorem mw_2_37 : (Cond.lays "OneLamp$Shelf" "OneLamp$Shelf" "sort" "I") ∈ g_tbl := tm_2 (List.mem_of_getElem? (i := 37) rfl) rfl
theorem mw_2_39 : (Cond.lays "OneLamp$Shelf" "OneLamp$Shelf" "length" "I") ∈ g_tbl := tm_2 (List.mem_of_getElem? (i := 39) rfl) rfl
theorem mw_2_41 : (Cond.laysFinal "OneLamp$Shelf" "OneLamp$Shelf" "elements" "[J") ∈ g_tbl := tm_2 (List.mem_of_getElem? (i := 41) rfl) rfl
theorem mw_2_53 : (Cond.laysFinal "OneLamp" "OneLamp" "wall" "LOneLamp$Wall;") ∈ g_tbl := tm_2 (List.mem_of_getElem? (i := 53) rfl) rfl
theorem mw_2_55 : (Cond.laysFinal "OneLamp" "OneLamp" "imageOfWall" "LOneLamp$Wall;") ∈ g_tbl := tm_2 (List.mem_of_getElem? (i := 55) rfl) rfl
theorem mw_2_57 : (Cond.lays "OneLamp" "OneLamp" "imageIsKept" "Z") ∈ g_tbl := tm_2 (List.mem_of_getElem? (i := 57) rfl) rfl
theorem mw_2_59 : (Cond.laysFinal "OneLamp" "OneLamp" "rules" "LOneLamp$Rules;") ∈ g_tbl := tm_2 (List.mem_of_getElem? (i := 59) rfl) rfl
theorem mw_2_61 : (Cond.laysFinal "OneLamp" "OneLamp" "tape" "LOneLamp$Tape;") ∈ g_tbl := tm_2 (List.mem_of_getElem? (i := 61) rfl) rfl
theorem mw_2_63 : (Cond.laysFinal "OneLamp" "OneLamp" "costs" "LOneLamp$Costs;") ∈ g_tbl := tm_2 (List.mem_of_getElem? (i := 63) rfl) rfl
theorem mw_2_65 : (Cond.laysFinal "OneLamp" "OneLamp" "thought" "LOneLamp$Thought;") ∈ g_tbl := tm_2 (List.mem_of_getElem? (i := 65) rfl) rfl
theorem mw_2_67 : (Cond.laysFinal "OneLamp" "OneLamp" "acts" "LOneLamp$Acts;") ∈ g_tbl := tm_2 (List.mem_of_getElem? (i := 67) rfl) rfl
theorem mw_2_69 : (Cond.laysFinal "OneLamp" "OneLamp" "shelves" "[LOneLamp$Shelf;") ∈ g_tbl := tm_2 (List.mem_of_getElem? (i := 69) rfl) rfl
theorem mw_2_83 : (Cond.instanceMethod ⟨"OneLamp$Wall", "hasPicture", "(I)Z"⟩) ∈ g_tbl := tm_2 (List.mem_of_getElem? (i := 83) rfl) rfl
theorem mw_2_84 : (Cond.selects "OneLamp$Wall" ⟨"OneLamp$Wall", "hasPicture", "(I)Z"⟩ ⟨"OneLamp$Wall", "hasPicture", "(I)Z"⟩) ∈ g_tbl := tm_2 (List.mem_of_getElem? (i := 84) rfl) rfl
theorem mw_2_85 : (Cond.code ⟨"OneLamp$Wall", "hasPicture", "(I)Z"⟩ prog_11_method_2_code 2 (Option.some .boolean)) ∈ g_tbl := tm_2 (List.mem_of_getElem? (i := 85) rfl) rfl
theorem mw_2_91 : (Cond.instanceMethod ⟨"OneLamp$Pictures", "holds", "(I)Z"⟩) ∈ g_tbl := tm_2 (List.mem_of_getElem? (i := 91) rfl) rfl
theorem mw_2_92 : (Cond.selects "OneLamp$Pictures" ⟨"OneLamp$Pictures", "holds", "(I)Z"⟩ ⟨"OneLamp$Pictures", "holds", "(I)Z"⟩) ∈ g_tbl := tm_2 (List.mem_of_getElem? (i := 92) rfl) rfl
theorem mw_2_93 : (Cond.code ⟨"OneLamp$Pictures", "holds", "(I)Z"⟩ prog_5_method_3_code 2 (Option.some .boolean)) ∈ g_tbl := tm_2 (List.mem_of_getElem? (i := 93) rfl) rfl
theorem mw_2_230 : (Cond.instanceMethod ⟨"OneLamp$Pictures", "remove", "(I)V"⟩) ∈ g_tbl := tm_2 (List.mem_of_getElem? (i := 230) rfl) rfl
theorem mw_2_231 : (Cond.selects "OneLamp$Pictures" ⟨"OneLamp$Pictures", "remove", "(I)V"⟩ ⟨"OneLamp$Pictures", "remove", "(I)V"⟩) ∈ g_tbl := tm_2 (List.mem_of_getElem? (i := 231) rfl) rfl
theorem mw_2_232 : (Cond.code ⟨"OneLamp$Pictures", "remove", "(I)V"⟩ prog_5_method_5_code 2 (Option.none : Option Jvm.ClassFile.FieldType)) ∈ g_tbl := tm_2 (List.mem_of_getElem? (i := 232) rfl) rfl
theorem mw_2_233 : (Cond.constantLong "OneLamp$Pictures" 19 (-1)) ∈ g_tbl := tm_2 (List.mem_of_getElem? (i := 233) rfl) rfl
theorem mw_3_33 : (Cond.instanceMethod ⟨"OneLamp$Wall", "hasLamp", "(I)Z"⟩) ∈ g_tbl := tm_3 (List.mem_of_getElem? (i := 33) rfl) rfl
theorem mw_3_34 : (Cond.selects "OneLamp$Wall" ⟨"OneLamp$Wall", "hasLamp", "(I)Z"⟩ ⟨"OneLamp$Wall", "hasLamp", "(I)Z"⟩) ∈ g_tbl := tm_3 (List.mem_of_getElem? (i := 34) rfl) rfl
theorem mw_3_35 : (Cond.code ⟨"OneLamp$Wall", "hasLamp", "(I)Z"⟩ prog_11_method_3_code 2 (Option.some .boolean)) ∈ g_tbl := tm_3 (List.mem_of_getElem? (i := 35) rfl) rfl
theorem mw_3_40 : (Cond.methodLink "OneLamp$Wall" 67 ⟨"OneLamp$Wall", "hasLamp", "(I)Z"⟩) ∈ g_tbl := tm_3 (List.mem_of_getElem? (i := 40) rfl) rfl
theorem mw_3_42 : (Cond.instanceMethod ⟨"OneLamp$Wall", "lastOf", "(I)I"⟩) ∈ g_tbl := tm_3 (List.mem_of_getElem? (i := 42) rfl) rfl
theorem mw_3_43 : (Cond.selects "OneLamp$Wall" ⟨"OneLamp$Wall", "lastOf", "(I)I"⟩ ⟨"OneLamp$Wall", "lastOf", "(I)I"⟩) ∈ g_tbl := tm_3 (List.mem_of_getElem? (i := 43) rfl) rfl
theorem mw_3_44 : (Cond.code ⟨"OneLamp$Wall", "lastOf", "(I)I"⟩ prog_11_method_6_code 2 (Option.some .int)) ∈ g_tbl := tm_3 (List.mem_of_getElem? (i := 44) rfl) rfl
theorem mw_3_68 : (Cond.instanceMethod ⟨"OneLamp$Wall", "step", "(I)V"⟩) ∈ g_tbl := tm_3 (List.mem_of_getElem? (i := 68) rfl) rfl
theorem mw_3_69 : (Cond.selects "OneLamp$Wall" ⟨"OneLamp$Wall", "step", "(I)V"⟩ ⟨"OneLamp$Wall", "step", "(I)V"⟩) ∈ g_tbl := tm_3 (List.mem_of_getElem? (i := 69) rfl) rfl
theorem mw_3_70 : (Cond.code ⟨"OneLamp$Wall", "step", "(I)V"⟩ prog_11_method_8_code 2 (Option.none : Option Jvm.ClassFile.FieldType)) ∈ g_tbl := tm_3 (List.mem_of_getElem? (i := 70) rfl) rfl
theorem mw_4_196 : (Cond.lays "OneLampModel" "OneLampModel" "code" "I") ∈ g_tbl := tm_4 (List.mem_of_getElem? (i := 196) rfl) rfl
theorem mw_4_198 : (Cond.lays "OneLampModel" "OneLampModel" "lamps" "I") ∈ g_tbl := tm_4 (List.mem_of_getElem? (i := 198) rfl) rfl
theorem mw_4_200 : (Cond.lays "OneLampModel" "OneLampModel" "at" "I") ∈ g_tbl := tm_4 (List.mem_of_getElem? (i := 200) rfl) rfl
theorem mw_4_202 : (Cond.lays "OneLampModel" "OneLampModel" "night" "I") ∈ g_tbl := tm_4 (List.mem_of_getElem? (i := 202) rfl) rfl
theorem mw_4_204 : (Cond.lays "OneLampModel" "OneLampModel" "spent" "I") ∈ g_tbl := tm_4 (List.mem_of_getElem? (i := 204) rfl) rfl
theorem mw_4_206 : (Cond.lays "OneLampModel" "OneLampModel" "rest" "I") ∈ g_tbl := tm_4 (List.mem_of_getElem? (i := 206) rfl) rfl
theorem mw_4_208 : (Cond.lays "OneLampModel" "OneLampModel" "shy" "I") ∈ g_tbl := tm_4 (List.mem_of_getElem? (i := 208) rfl) rfl
theorem mw_4_210 : (Cond.laysFinal "OneLampModel" "OneLampModel" "had" "[Z") ∈ g_tbl := tm_4 (List.mem_of_getElem? (i := 210) rfl) rfl
theorem mw_4_212 : (Cond.laysFinal "OneLampModel" "OneLampModel" "told" "[Z") ∈ g_tbl := tm_4 (List.mem_of_getElem? (i := 212) rfl) rfl
theorem mw_4_214 : (Cond.laysFinal "OneLampModel" "OneLampModel" "barred" "[Z") ∈ g_tbl := tm_4 (List.mem_of_getElem? (i := 214) rfl) rfl
theorem mw_4_216 : (Cond.laysFinal "OneLampModel" "OneLampModel" "cost" "[I") ∈ g_tbl := tm_4 (List.mem_of_getElem? (i := 216) rfl) rfl
theorem mw_4_218 : (Cond.laysFinal "OneLampModel" "OneLampModel" "last" "[I") ∈ g_tbl := tm_4 (List.mem_of_getElem? (i := 218) rfl) rfl
theorem mw_4_220 : (Cond.laysFinal "OneLampModel" "OneLampModel" "often" "[I") ∈ g_tbl := tm_4 (List.mem_of_getElem? (i := 220) rfl) rfl
theorem mw_4_222 : (Cond.lays "OneLampModel" "OneLampModel" "hasBegun" "Z") ∈ g_tbl := tm_4 (List.mem_of_getElem? (i := 222) rfl) rfl
theorem mw_4_224 : (Cond.lays "OneLampModel" "OneLampModel" "doneMany" "I") ∈ g_tbl := tm_4 (List.mem_of_getElem? (i := 224) rfl) rfl
theorem mw_4_226 : (Cond.lays "OneLampModel" "OneLampModel" "undoneMany" "I") ∈ g_tbl := tm_4 (List.mem_of_getElem? (i := 226) rfl) rfl
theorem mw_4_228 : (Cond.laysFinal "OneLampModel" "OneLampModel" "changeOf" "[I") ∈ g_tbl := tm_4 (List.mem_of_getElem? (i := 228) rfl) rfl
theorem mw_4_230 : (Cond.laysFinal "OneLampModel" "OneLampModel" "changeAt" "[I") ∈ g_tbl := tm_4 (List.mem_of_getElem? (i := 230) rfl) rfl
theorem mw_4_232 : (Cond.laysFinal "OneLampModel" "OneLampModel" "before" "[I") ∈ g_tbl := tm_4 (List.mem_of_getElem? (i := 232) rfl) rfl
theorem mw_4_234 : (Cond.laysFinal "OneLampModel" "OneLampModel" "behind" "[I") ∈ g_tbl := tm_4 (List.mem_of_getElem? (i := 234) rfl) rfl
theorem mw_4_236 : (Cond.laysFinal "OneLampModel" "OneLampModel" "tape" "[B") ∈ g_tbl := tm_4 (List.mem_of_getElem? (i := 236) rfl) rfl
theorem mw_4_238 : (Cond.lays "OneLampModel" "OneLampModel" "taped" "I") ∈ g_tbl := tm_4 (List.mem_of_getElem? (i := 238) rfl) rfl
theorem mw_5_0 : (Cond.lays "OneLampModel" "OneLampModel" "here" "I") ∈ g_tbl := tm_5 (List.mem_of_getElem? (i := 0) rfl) rfl
theorem mw_5_2 : (Cond.lays "OneLampModel" "OneLampModel" "fault" "I") ∈ g_tbl := tm_5 (List.mem_of_getElem? (i := 2) rfl) rfl
theorem mw_5_4 : (Cond.lays "OneLampModel" "OneLampModel" "open" "I") ∈ g_tbl := tm_5 (List.mem_of_getElem? (i := 4) rfl) rfl
theorem mw_5_6 : (Cond.lays "OneLampModel" "OneLampModel" "laid" "I") ∈ g_tbl := tm_5 (List.mem_of_getElem? (i := 6) rfl) rfl
theorem mw_5_8 : (Cond.laysFinal "OneLampModel" "OneLampModel" "act" "[B") ∈ g_tbl := tm_5 (List.mem_of_getElem? (i := 8) rfl) rfl
theorem mw_5_10 : (Cond.laysFinal "OneLampModel" "OneLampModel" "with" "[I") ∈ g_tbl := tm_5 (List.mem_of_getElem? (i := 10) rfl) rfl
theorem mw_5_12 : (Cond.laysFinal "OneLampModel" "OneLampModel" "lineMany" "[I") ∈ g_tbl := tm_5 (List.mem_of_getElem? (i := 12) rfl) rfl
theorem mw_5_14 : (Cond.laysFinal "OneLampModel" "OneLampModel" "testEnd" "[S") ∈ g_tbl := tm_5 (List.mem_of_getElem? (i := 14) rfl) rfl
theorem mw_5_16 : (Cond.laysFinal "OneLampModel" "OneLampModel" "lineEnd" "[S") ∈ g_tbl := tm_5 (List.mem_of_getElem? (i := 16) rfl) rfl
theorem mw_5_18 : (Cond.laysFinal "OneLampModel" "OneLampModel" "facts" "[I") ∈ g_tbl := tm_5 (List.mem_of_getElem? (i := 18) rfl) rfl
theorem mw_5_20 : (Cond.laysFinal "OneLampModel" "OneLampModel" "pile" "[I") ∈ g_tbl := tm_5 (List.mem_of_getElem? (i := 20) rfl) rfl
theorem mw_5_22 : (Cond.lays "OneLampModel" "OneLampModel" "hasLaw" "Z") ∈ g_tbl := tm_5 (List.mem_of_getElem? (i := 22) rfl) rfl
theorem mw_5_24 : (Cond.laysFinal "OneLampModel" "OneLampModel" "way" "[I") ∈ g_tbl := tm_5 (List.mem_of_getElem? (i := 24) rfl) rfl
theorem mw_5_26 : (Cond.laysFinal "OneLampModel" "OneLampModel" "bestWay" "[I") ∈ g_tbl := tm_5 (List.mem_of_getElem? (i := 26) rfl) rfl
theorem mw_5_28 : (Cond.lays "OneLampModel" "OneLampModel" "bestMany" "I") ∈ g_tbl := tm_5 (List.mem_of_getElem? (i := 28) rfl) rfl
theorem mw_5_30 : (Cond.laysFinal "OneLampModel" "OneLampModel" "wasHad" "[Z") ∈ g_tbl := tm_5 (List.mem_of_getElem? (i := 30) rfl) rfl
theorem mw_5_32 : (Cond.laysFinal "OneLampModel" "OneLampModel" "wasLast" "[I") ∈ g_tbl := tm_5 (List.mem_of_getElem? (i := 32) rfl) rfl
theorem mw_5_34 : (Cond.lays "OneLampModel" "OneLampModel" "wasAt" "I") ∈ g_tbl := tm_5 (List.mem_of_getElem? (i := 34) rfl) rfl
theorem mw_5_36 : (Cond.lays "OneLampModel" "OneLampModel" "wasNight" "I") ∈ g_tbl := tm_5 (List.mem_of_getElem? (i := 36) rfl) rfl
theorem mw_5_38 : (Cond.lays "OneLampModel" "OneLampModel" "hasImage" "Z") ∈ g_tbl := tm_5 (List.mem_of_getElem? (i := 38) rfl) rfl
theorem mw_5_40 : (Cond.lays "OneLampModel" "OneLampModel" "keptLamps" "I") ∈ g_tbl := tm_5 (List.mem_of_getElem? (i := 40) rfl) rfl
theorem mw_5_42 : (Cond.lays "OneLampModel" "OneLampModel" "keptAt" "I") ∈ g_tbl := tm_5 (List.mem_of_getElem? (i := 42) rfl) rfl
theorem mw_5_44 : (Cond.lays "OneLampModel" "OneLampModel" "keptNight" "I") ∈ g_tbl := tm_5 (List.mem_of_getElem? (i := 44) rfl) rfl
theorem mw_5_46 : (Cond.lays "OneLampModel" "OneLampModel" "keptSpent" "I") ∈ g_tbl := tm_5 (List.mem_of_getElem? (i := 46) rfl) rfl
theorem mw_5_48 : (Cond.laysFinal "OneLampModel" "OneLampModel" "keptHad" "[Z") ∈ g_tbl := tm_5 (List.mem_of_getElem? (i := 48) rfl) rfl
theorem mw_5_50 : (Cond.laysFinal "OneLampModel" "OneLampModel" "keptTold" "[Z") ∈ g_tbl := tm_5 (List.mem_of_getElem? (i := 50) rfl) rfl
theorem mw_5_52 : (Cond.laysFinal "OneLampModel" "OneLampModel" "keptLast" "[I") ∈ g_tbl := tm_5 (List.mem_of_getElem? (i := 52) rfl) rfl
theorem mw_5_54 : (Cond.laysFinal "OneLampModel" "OneLampModel" "keptOften" "[I") ∈ g_tbl := tm_5 (List.mem_of_getElem? (i := 54) rfl) rfl
theorem mw_5_56 : (Cond.lays "OneLampModel" "OneLampModel" "bodies" "I") ∈ g_tbl := tm_5 (List.mem_of_getElem? (i := 56) rfl) rfl
theorem mw_5_58 : (Cond.laysFinal "OneLampModel" "OneLampModel" "kind" "[I") ∈ g_tbl := tm_5 (List.mem_of_getElem? (i := 58) rfl) rfl
theorem mw_5_60 : (Cond.lays "OneLampModel" "OneLampModel" "traces" "I") ∈ g_tbl := tm_5 (List.mem_of_getElem? (i := 60) rfl) rfl
theorem mw_5_62 : (Cond.laysFinal "OneLampModel" "OneLampModel" "traced" "[I") ∈ g_tbl := tm_5 (List.mem_of_getElem? (i := 62) rfl) rfl
theorem mw_5_64 : (Cond.laysFinal "OneLampModel" "OneLampModel" "holds" "[I") ∈ g_tbl := tm_5 (List.mem_of_getElem? (i := 64) rfl) rfl
theorem mw_5_66 : (Cond.laysFinal "OneLampModel" "OneLampModel" "size" "[I") ∈ g_tbl := tm_5 (List.mem_of_getElem? (i := 66) rfl) rfl
theorem mw_5_68 : (Cond.laysFinal "OneLampModel" "OneLampModel" "elements" "[J") ∈ g_tbl := tm_5 (List.mem_of_getElem? (i := 68) rfl) rfl
theorem mw_5_70 : (Cond.laysFinal "OneLampModel" "OneLampModel" "shifted" "[J") ∈ g_tbl := tm_5 (List.mem_of_getElem? (i := 70) rfl) rfl
theorem kf_OL : KF 0 "OneLamp" T_OL 9 t_OL := by
  refine ⟨rfl, ?_, by decide +kernel, by decide +kernel⟩
  intro w hw
  obtain ⟨i, hi, rfl⟩ := List.mem_map.mp hw
  rw [List.mem_range] at hi
  match i, hi with
  | 0, _ => exact mw_2_53
  | 1, _ => exact mw_2_55
  | 2, _ => exact mw_2_57
  | 3, _ => exact mw_2_59
  | 4, _ => exact mw_2_61
  | 5, _ => exact mw_2_63
  | 6, _ => exact mw_2_65
  | 7, _ => exact mw_2_67
  | 8, _ => exact mw_2_69
  | k + 9, h => exact absurd h (by omega)
theorem kf_Wa : KF 1 "OneLamp$Wall" T_Wa 8 t_Wa := by
  refine ⟨rfl, ?_, by decide +kernel, by decide +kernel⟩
  intro w hw
  obtain ⟨i, hi, rfl⟩ := List.mem_map.mp hw
  rw [List.mem_range] at hi
  match i, hi with
  | 0, _ => exact mw_1_85
  | 1, _ => exact mw_1_87
  | 2, _ => exact mw_1_89
  | 3, _ => exact mw_1_91
  | 4, _ => exact mw_1_93
  | 5, _ => exact mw_1_95
  | 6, _ => exact mw_1_97
  | 7, _ => exact mw_1_99
  | k + 8, h => exact absurd h (by omega)
theorem kf_Pi : KF 2 "OneLamp$Pictures" T_Pi 1 t_Pi := by
  refine ⟨rfl, ?_, by decide +kernel, by decide +kernel⟩
  intro w hw
  obtain ⟨i, hi, rfl⟩ := List.mem_map.mp hw
  rw [List.mem_range] at hi
  match i, hi with
  | 0, _ => exact mw_1_38
  | k + 1, h => exact absurd h (by omega)
theorem kf_Ru : KF 3 "OneLamp$Rules" T_Ru 6 t_Ru := by
  refine ⟨rfl, ?_, by decide +kernel, by decide +kernel⟩
  intro w hw
  obtain ⟨i, hi, rfl⟩ := List.mem_map.mp hw
  rw [List.mem_range] at hi
  match i, hi with
  | 0, _ => exact mw_1_138
  | 1, _ => exact mw_1_140
  | 2, _ => exact mw_1_142
  | 3, _ => exact mw_1_144
  | 4, _ => exact mw_1_146
  | 5, _ => exact mw_1_148
  | k + 6, h => exact absurd h (by omega)
theorem kf_La : KF 4 "OneLamp$Law" T_La 4 t_La := by
  refine ⟨rfl, ?_, by decide +kernel, by decide +kernel⟩
  intro w hw
  obtain ⟨i, hi, rfl⟩ := List.mem_map.mp hw
  rw [List.mem_range] at hi
  match i, hi with
  | 0, _ => exact mw_1_119
  | 1, _ => exact mw_1_121
  | 2, _ => exact mw_1_123
  | 3, _ => exact mw_1_125
  | k + 4, h => exact absurd h (by omega)
theorem kf_Ta : KF 5 "OneLamp$Tape" T_Ta 5 t_Ta := by
  refine ⟨rfl, ?_, by decide +kernel, by decide +kernel⟩
  intro w hw
  obtain ⟨i, hi, rfl⟩ := List.mem_map.mp hw
  rw [List.mem_range] at hi
  match i, hi with
  | 0, _ => exact mw_1_165
  | 1, _ => exact mw_1_167
  | 2, _ => exact mw_1_169
  | 3, _ => exact mw_1_171
  | 4, _ => exact mw_1_173
  | k + 5, h => exact absurd h (by omega)
theorem kf_Co : KF 6 "OneLamp$Costs" T_Co 7 t_Co := by
  refine ⟨rfl, ?_, by decide +kernel, by decide +kernel⟩
  intro w hw
  obtain ⟨i, hi, rfl⟩ := List.mem_map.mp hw
  rw [List.mem_range] at hi
  match i, hi with
  | 0, _ => exact mw_1_192
  | 1, _ => exact mw_1_194
  | 2, _ => exact mw_1_196
  | 3, _ => exact mw_1_198
  | 4, _ => exact mw_1_200
  | 5, _ => exact mw_1_202
  | 6, _ => exact mw_1_204
  | k + 7, h => exact absurd h (by omega)
theorem kf_Th : KF 7 "OneLamp$Thought" T_Th 6 t_Th := by
  refine ⟨rfl, ?_, by decide +kernel, by decide +kernel⟩
  intro w hw
  obtain ⟨i, hi, rfl⟩ := List.mem_map.mp hw
  rw [List.mem_range] at hi
  match i, hi with
  | 0, _ => exact mw_1_221
  | 1, _ => exact mw_1_223
  | 2, _ => exact mw_1_225
  | 3, _ => exact mw_1_227
  | 4, _ => exact mw_1_229
  | 5, _ => exact mw_1_231
  | k + 6, h => exact absurd h (by omega)
theorem kf_Ac : KF 8 "OneLamp$Acts" T_Ac 5 t_Ac := by
  refine ⟨rfl, ?_, by decide +kernel, by decide +kernel⟩
  intro w hw
  obtain ⟨i, hi, rfl⟩ := List.mem_map.mp hw
  rw [List.mem_range] at hi
  match i, hi with
  | 0, _ => exact mw_2_7
  | 1, _ => exact mw_2_9
  | 2, _ => exact mw_2_11
  | 3, _ => exact mw_2_13
  | 4, _ => exact mw_2_15
  | k + 5, h => exact absurd h (by omega)
theorem kf_Sh : KF 9 "OneLamp$Shelf" T_Sh 5 t_Sh := by
  refine ⟨rfl, ?_, by decide +kernel, by decide +kernel⟩
  intro w hw
  obtain ⟨i, hi, rfl⟩ := List.mem_map.mp hw
  rw [List.mem_range] at hi
  match i, hi with
  | 0, _ => exact mw_2_33
  | 1, _ => exact mw_2_35
  | 2, _ => exact mw_2_37
  | 3, _ => exact mw_2_39
  | 4, _ => exact mw_2_41
  | k + 5, h => exact absurd h (by omega)
theorem kf_Mo : KF 10 "OneLampModel" T_Mo 58 t_Mo := by
  refine ⟨rfl, ?_, by decide +kernel, by decide +kernel⟩
  intro w hw
  obtain ⟨i, hi, rfl⟩ := List.mem_map.mp hw
  rw [List.mem_range] at hi
  match i, hi with
  | 0, _ => exact mw_4_196
  | 1, _ => exact mw_4_198
  | 2, _ => exact mw_4_200
  | 3, _ => exact mw_4_202
  | 4, _ => exact mw_4_204
  | 5, _ => exact mw_4_206
  | 6, _ => exact mw_4_208
  | 7, _ => exact mw_4_210
  | 8, _ => exact mw_4_212
  | 9, _ => exact mw_4_214
  | 10, _ => exact mw_4_216
  | 11, _ => exact mw_4_218
  | 12, _ => exact mw_4_220
  | 13, _ => exact mw_4_222
  | 14, _ => exact mw_4_224
  | 15, _ => exact mw_4_226
  | 16, _ => exact mw_4_228
  | 17, _ => exact mw_4_230
  | 18, _ => exact mw_4_232
  | 19, _ => exact mw_4_234
  | 20, _ => exact mw_4_236
  | 21, _ => exact mw_4_238
  | 22, _ => exact mw_5_0
  | 23, _ => exact mw_5_2
  | 24, _ => exact mw_5_4
  | 25, _ => exact mw_5_6
  | 26, _ => exact mw_5_8
  | 27, _ => exact mw_5_10
  | 28, _ => exact mw_5_12
  | 29, _ => exact mw_5_14
  | 30, _ => exact mw_5_16
  | 31, _ => exact mw_5_18
  | 32, _ => exact mw_5_20
  | 33, _ => exact mw_5_22
  | 34, _ => exact mw_5_24
  | 35, _ => exact mw_5_26
  | 36, _ => exact mw_5_28
  | 37, _ => exact mw_5_30
  | 38, _ => exact mw_5_32
  | 39, _ => exact mw_5_34
  | 40, _ => exact mw_5_36
  | 41, _ => exact mw_5_38
  | 42, _ => exact mw_5_40
  | 43, _ => exact mw_5_42
  | 44, _ => exact mw_5_44
  | 45, _ => exact mw_5_46
  | 46, _ => exact mw_5_48
  | 47, _ => exact mw_5_50
  | 48, _ => exact mw_5_52
  | 49, _ => exact mw_5_54
  | 50, _ => exact mw_5_56
  | 51, _ => exact mw_5_58
  | 52, _ => exact mw_5_60
  | 53, _ => exact mw_5_62
  | 54, _ => exact mw_5_64
  | 55, _ => exact mw_5_66
  | 56, _ => exact mw_5_68
  | 57, _ => exact mw_5_70
  | k + 58, h => exact absurd h (by omega)
