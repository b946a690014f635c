/-! what the walks use of pure logic -/
theorem g_ip {α : Sort _} {c : Prop} [Decidable c] {a b x : α} (h : c) (hf : (if c then a else b) = x) : a = x := (if_pos h).symm.trans hf
theorem g_in {α : Sort _} {c : Prop} [Decidable c] {a b x : α} (h : ¬ c) (hf : (if c then a else b) = x) : b = x := (if_neg h).symm.trans hf
theorem g_bt {α : Sort _} {c : Bool} {a b x : α} (h : c = true) (hf : (if c = true then a else b) = x) : a = x := (if_pos h).symm.trans hf
theorem g_bf {α : Sort _} {c : Bool} {a b x : α} (h : c = false) (hf : (if c = true then a else b) = x) : b = x := (if_neg (by rw [h]; decide)).symm.trans hf
theorem g_ck {α : Type _} {c : Prop} [Decidable c] {a : Option α} {o : α} (hf : (if c then none else a) = some o) : ¬ c := fun h => by rw [if_pos h] at hf; cases hf
theorem g_bi {α β : Type _} {x : Option α} {k : α → Option β} {o : β} (h : x.bind k = some o) : ∃ a, x = some a ∧ k a = some o := by
  cases x with
  | none => cases h
  | some a => exact ⟨a, rfl, h⟩
theorem g_cp {sp dp n : Int32} {n0 n1 : Nat} (h : ¬ (sp < 0 ∨ dp < 0 ∨ n < 0 ∨ n0 < sp.toNatClampNeg + n.toNatClampNeg ∨ n1 < dp.toNatClampNeg + n.toNatClampNeg)) : ¬ sp < 0 ∧ ¬ dp < 0 ∧ ¬ n < 0 ∧ sp.toNatClampNeg + n.toNatClampNeg ≤ n0 ∧ dp.toNatClampNeg + n.toNatClampNeg ≤ n1 :=
  ⟨fun z => h (Or.inl z), fun z => h (Or.inr (Or.inl z)), fun z => h (Or.inr (Or.inr (Or.inl z))), Nat.not_lt.mp fun z => h (Or.inr (Or.inr (Or.inr (Or.inl z)))), Nat.not_lt.mp fun z => h (Or.inr (Or.inr (Or.inr (Or.inr z))))⟩
theorem g_room {s : State} {pl : Platform} {r r' : Room} (hf : r.frames ≤ r'.frames) (hl : r.locals ≤ r'.locals) (hc : r.cells = r'.cells) (hs : r.slots = r'.slots) (h : s.hasRoom pl r' = true) : s.hasRoom pl r = true := by
  simp only [State.hasRoom, Bool.and_eq_true, decide_eq_true_eq] at h ⊢
  obtain ⟨⟨⟨⟨y, a, b, c, d, e⟩, f⟩, g⟩, i⟩ := h
  exact ⟨⟨⟨⟨by omega, by omega, by omega, by omega, by omega, e⟩, by omega⟩, by omega⟩, i⟩
theorem ct_mono {S : Type} {l : Launch} {y : MethodName} {bytes : ByteArray} {maxL : Nat} {ret : Option FieldType} {rm rm' : Room} {D : va_G} {dA : Nat → ClassId} {av : List Value} {w : va_W} {rv : Option Value} {w' : S → va_W} (hf : rm.frames ≤ rm'.frames) (hl : rm.locals ≤ rm'.locals) (hc : rm.cells = rm'.cells) (hs : rm.slots = rm'.slots) (h : CT l y bytes maxL ret rm D dA av w rv w') : CT l y bytes maxL ret rm' D dA av w rv w' := by
  intro sz
  rw [← hc, ← hs]
  intro p e ha hcs hk s m args below hfr happ hP hK
  obtain ⟨a1, a2, a3, a4, a5, a6, a7, a8⟩ := (Spec.appliesLoose_iff hfr).mp happ
  exact h sz p e ha hcs hk s m args below hfr ((Spec.appliesLoose_iff hfr).mpr ⟨a1, a2, a3, a4, a5, a6, g_room hf hl hc hs a7, a8⟩) hP hK
def g_selok (is : List Nat) (sel : List (Nat × Bool)) : Bool := (List.range sel.length).all fun k => match sel[k]? with
  | some (j, true) => is[j]? == some k
  | some (j, false) => j == k && !is.contains k
  | none => false
theorem g_lay_sel (ws w1 ws1 : va_W) (is : List Nat) (sel : List (Nat × Bool)) (hn : va_nd is = true) (hl : is.length = w1.length) (hs : g_selok is sel = true) (hlen : sel.length = ws.length) (h : sel.map (fun q => cond q.2 (w1[q.1]?) (ws[q.1]?)) = ws1.map some) : g_lay ws is w1 = ws1 := by
  have hl1 : ws1.length = ws.length := by rw [← hlen]; simpa using (congrArg List.length h).symm
  refine List.ext_getElem? fun k => ?_
  by_cases hk : k < ws.length
  · have hks : k < sel.length := by omega
    have h1 := List.all_eq_true.mp hs k (List.mem_range.mpr hks)
    have h2 : (sel.map (fun q => cond q.2 (w1[q.1]?) (ws[q.1]?)))[k]? = (ws1.map some)[k]? := by rw [h]
    rw [List.getElem?_map, List.getElem?_map, List.getElem?_eq_getElem hks] at h2
    rw [List.getElem?_eq_getElem hks] at h1
    have hk1 : k < ws1.length := by omega
    rw [List.getElem?_eq_getElem hk1] at h2 ⊢
    generalize sel[k] = q at h1 h2
    obtain ⟨j, b⟩ := q
    cases b with
    | true =>
      have h3 : is[j]? = some k := by simpa using h1
      have hj : j < w1.length := by rw [← hl]; exact (List.getElem?_eq_some_iff.mp h3).1
      have h4 : w1[j]? = some ws1[k] := by simpa using h2
      exact g_lay_in is w1 ws j k _ hn h3 h4 hk
    | false =>
      have h3 : j = k ∧ ¬ k ∈ is := by simpa using h1
      obtain ⟨rfl, h5⟩ := h3
      have h4 : ws[j]? = some ws1[j] := by simpa using h2
      rw [g_lay_out is w1 ws j h5, h4]
  · rw [List.getElem?_eq_none (by rw [g_lay_len]; omega), List.getElem?_eq_none (by omega)]
theorem g_o2 {α β : Type _} {a c : α} {b d : β} (h : some (a, b) = some (c, d)) : a = c ∧ some b = some d := by
  have h := Prod.mk.inj (Option.some.inj h)
  exact ⟨h.1, by rw [h.2]⟩
theorem b2i_fit (b : Bool) : fits .boolean (.int (b2i b)) = true := by cases b <;> rfl
theorem mw_1_1 : (Cond.initialized "OneLamp") ∈ g_tbl := tm_1 (List.mem_of_getElem? (i := 1) rfl) rfl
theorem mw_1_2 : (Cond.initialized "OneLamp$Wall") ∈ g_tbl := tm_1 (List.mem_of_getElem? (i := 2) rfl) rfl
theorem mw_1_3 : (Cond.initialized "OneLamp$Pictures") ∈ g_tbl := tm_1 (List.mem_of_getElem? (i := 3) rfl) rfl
theorem mw_1_4 : (Cond.initialized "java/util/Arrays") ∈ g_tbl := tm_1 (List.mem_of_getElem? (i := 4) rfl) rfl
theorem mw_1_5 : (Cond.initialized "OneLamp$Rules") ∈ g_tbl := tm_1 (List.mem_of_getElem? (i := 5) rfl) rfl
theorem mw_1_6 : (Cond.initialized "OneLamp$Law") ∈ g_tbl := tm_1 (List.mem_of_getElem? (i := 6) rfl) rfl
theorem mw_1_7 : (Cond.initialized "OneLamp$Tape") ∈ g_tbl := tm_1 (List.mem_of_getElem? (i := 7) rfl) rfl
theorem mw_1_8 : (Cond.initialized "OneLamp$Costs") ∈ g_tbl := tm_1 (List.mem_of_getElem? (i := 8) rfl) rfl
theorem mw_1_9 : (Cond.initialized "OneLamp$Thought") ∈ g_tbl := tm_1 (List.mem_of_getElem? (i := 9) rfl) rfl
theorem mw_1_10 : (Cond.initialized "OneLamp$Acts") ∈ g_tbl := tm_1 (List.mem_of_getElem? (i := 10) rfl) rfl
theorem mw_1_11 : (Cond.initialized "OneLamp$Shelf") ∈ g_tbl := tm_1 (List.mem_of_getElem? (i := 11) rfl) rfl
theorem mw_1_12 : (Cond.initialized "OneLampModel") ∈ g_tbl := tm_1 (List.mem_of_getElem? (i := 12) rfl) rfl
theorem mw_1_13 : (Cond.initialized "java/lang/System") ∈ g_tbl := tm_1 (List.mem_of_getElem? (i := 13) rfl) rfl
theorem mw_1_14 : (Cond.initialized "java/lang/Long") ∈ g_tbl := tm_1 (List.mem_of_getElem? (i := 14) rfl) rfl
theorem mw_1_15 : (Cond.initialized "OneLamp$Sign") ∈ g_tbl := tm_1 (List.mem_of_getElem? (i := 15) rfl) rfl
theorem mw_1_16 : (Cond.initialized "java/lang/Integer") ∈ g_tbl := tm_1 (List.mem_of_getElem? (i := 16) rfl) rfl
theorem mw_1_17 : (Cond.classLink "OneLampLaw" 7 "OneLamp") ∈ g_tbl := tm_1 (List.mem_of_getElem? (i := 17) rfl) rfl
theorem mw_1_18 : (Cond.instantiable "OneLamp" 9) ∈ g_tbl := tm_1 (List.mem_of_getElem? (i := 18) rfl) rfl
theorem mw_1_19 : (Cond.methodLink "OneLampLaw" 9 ⟨"OneLamp", "<init>", "()V"⟩) ∈ g_tbl := tm_1 (List.mem_of_getElem? (i := 19) rfl) rfl
theorem mw_1_20 : (Cond.instanceMethod ⟨"OneLamp", "<init>", "()V"⟩) ∈ g_tbl := tm_1 (List.mem_of_getElem? (i := 20) rfl) rfl
theorem mw_1_21 : (Cond.code ⟨"OneLamp", "<init>", "()V"⟩ prog_1_method_1_code 2 (Option.none : Option Jvm.ClassFile.FieldType)) ∈ g_tbl := tm_1 (List.mem_of_getElem? (i := 21) rfl) rfl
theorem mw_1_22 : (Cond.methodLink "OneLamp" 1 ⟨"java/lang/Object", "<init>", "()V"⟩) ∈ g_tbl := tm_1 (List.mem_of_getElem? (i := 22) rfl) rfl
theorem mw_1_23 : (Cond.instanceMethod ⟨"java/lang/Object", "<init>", "()V"⟩) ∈ g_tbl := tm_1 (List.mem_of_getElem? (i := 23) rfl) rfl
theorem mw_1_24 : (Cond.code ⟨"java/lang/Object", "<init>", "()V"⟩ object_method_1_code 1 (Option.none : Option Jvm.ClassFile.FieldType)) ∈ g_tbl := tm_1 (List.mem_of_getElem? (i := 24) rfl) rfl
theorem mw_1_25 : (Cond.classLink "OneLamp" 7 "OneLamp$Wall") ∈ g_tbl := tm_1 (List.mem_of_getElem? (i := 25) rfl) rfl
theorem mw_1_26 : (Cond.instantiable "OneLamp$Wall" 8) ∈ g_tbl := tm_1 (List.mem_of_getElem? (i := 26) rfl) rfl
theorem mw_1_27 : (Cond.methodLink "OneLamp" 9 ⟨"OneLamp$Wall", "<init>", "()V"⟩) ∈ g_tbl := tm_1 (List.mem_of_getElem? (i := 27) rfl) rfl
theorem mw_1_28 : (Cond.instanceMethod ⟨"OneLamp$Wall", "<init>", "()V"⟩) ∈ g_tbl := tm_1 (List.mem_of_getElem? (i := 28) rfl) rfl
theorem mw_1_29 : (Cond.code ⟨"OneLamp$Wall", "<init>", "()V"⟩ prog_11_method_1_code 1 (Option.none : Option Jvm.ClassFile.FieldType)) ∈ g_tbl := tm_1 (List.mem_of_getElem? (i := 29) rfl) rfl
theorem mw_1_30 : (Cond.methodLink "OneLamp$Wall" 3 ⟨"java/lang/Object", "<init>", "()V"⟩) ∈ g_tbl := tm_1 (List.mem_of_getElem? (i := 30) rfl) rfl
theorem mw_1_31 : (Cond.classLink "OneLamp$Wall" 15 "OneLamp$Pictures") ∈ g_tbl := tm_1 (List.mem_of_getElem? (i := 31) rfl) rfl
theorem mw_1_32 : (Cond.instantiable "OneLamp$Pictures" 1) ∈ g_tbl := tm_1 (List.mem_of_getElem? (i := 32) rfl) rfl
theorem mw_1_33 : (Cond.methodLink "OneLamp$Wall" 17 ⟨"OneLamp$Pictures", "<init>", "()V"⟩) ∈ g_tbl := tm_1 (List.mem_of_getElem? (i := 33) rfl) rfl
theorem mw_1_34 : (Cond.instanceMethod ⟨"OneLamp$Pictures", "<init>", "()V"⟩) ∈ g_tbl := tm_1 (List.mem_of_getElem? (i := 34) rfl) rfl
theorem mw_1_35 : (Cond.code ⟨"OneLamp$Pictures", "<init>", "()V"⟩ prog_5_method_1_code 1 (Option.none : Option Jvm.ClassFile.FieldType)) ∈ g_tbl := tm_1 (List.mem_of_getElem? (i := 35) rfl) rfl
theorem mw_1_36 : (Cond.methodLink "OneLamp$Pictures" 3 ⟨"java/lang/Object", "<init>", "()V"⟩) ∈ g_tbl := tm_1 (List.mem_of_getElem? (i := 36) rfl) rfl
theorem mw_1_37 : (Cond.fieldLink "OneLamp$Pictures" 11 "OneLamp$Pictures" "words" "[J") ∈ g_tbl := tm_1 (List.mem_of_getElem? (i := 37) rfl) rfl
theorem mw_1_38 : (Cond.laysFinal "OneLamp$Pictures" "OneLamp$Pictures" "words" "[J") ∈ g_tbl := tm_1 (List.mem_of_getElem? (i := 38) rfl) rfl
theorem mw_1_41 : (Cond.arrayClass .long) ∈ g_tbl := tm_1 (List.mem_of_getElem? (i := 41) rfl) rfl
theorem mw_1_42 : (Cond.methodLink "OneLamp$Wall" 32 ⟨"OneLamp$Wall", "startAt", "(I)V"⟩) ∈ g_tbl := tm_1 (List.mem_of_getElem? (i := 42) rfl) rfl
theorem mw_1_43 : (Cond.instanceMethod ⟨"OneLamp$Wall", "startAt", "(I)V"⟩) ∈ g_tbl := tm_1 (List.mem_of_getElem? (i := 43) rfl) rfl
theorem mw_1_44 : (Cond.selects "OneLamp$Wall" ⟨"OneLamp$Wall", "startAt", "(I)V"⟩ ⟨"OneLamp$Wall", "startAt", "(I)V"⟩) ∈ g_tbl := tm_1 (List.mem_of_getElem? (i := 44) rfl) rfl
theorem mw_1_45 : (Cond.code ⟨"OneLamp$Wall", "startAt", "(I)V"⟩ prog_11_method_4_code 2 (Option.none : Option Jvm.ClassFile.FieldType)) ∈ g_tbl := tm_1 (List.mem_of_getElem? (i := 45) rfl) rfl
theorem mw_1_46 : (Cond.methodLink "OneLamp$Wall" 45 ⟨"OneLamp$Pictures", "empty", "()V"⟩) ∈ g_tbl := tm_1 (List.mem_of_getElem? (i := 46) rfl) rfl
theorem mw_1_47 : (Cond.instanceMethod ⟨"OneLamp$Pictures", "empty", "()V"⟩) ∈ g_tbl := tm_1 (List.mem_of_getElem? (i := 47) rfl) rfl
theorem mw_1_48 : (Cond.selects "OneLamp$Pictures" ⟨"OneLamp$Pictures", "empty", "()V"⟩ ⟨"OneLamp$Pictures", "empty", "()V"⟩) ∈ g_tbl := tm_1 (List.mem_of_getElem? (i := 48) rfl) rfl
theorem mw_1_49 : (Cond.code ⟨"OneLamp$Pictures", "empty", "()V"⟩ prog_5_method_6_code 1 (Option.none : Option Jvm.ClassFile.FieldType)) ∈ g_tbl := tm_1 (List.mem_of_getElem? (i := 49) rfl) rfl
theorem mw_1_50 : (Cond.methodLink "OneLamp$Pictures" 21 ⟨"java/util/Arrays", "fill", "([JJ)V"⟩) ∈ g_tbl := tm_1 (List.mem_of_getElem? (i := 50) rfl) rfl
theorem mw_1_51 : (Cond.static ⟨"java/util/Arrays", "fill", "([JJ)V"⟩) ∈ g_tbl := tm_1 (List.mem_of_getElem? (i := 51) rfl) rfl
theorem mw_1_52 : (Cond.code ⟨"java/util/Arrays", "fill", "([JJ)V"⟩ prog_17_method_101_code 5 (Option.none : Option Jvm.ClassFile.FieldType)) ∈ g_tbl := tm_1 (List.mem_of_getElem? (i := 52) rfl) rfl
theorem mw_1_53 : (Cond.methodLink "OneLamp$Wall" 48 ⟨"OneLamp$Pictures", "add", "(I)V"⟩) ∈ g_tbl := tm_1 (List.mem_of_getElem? (i := 53) rfl) rfl
theorem mw_1_54 : (Cond.instanceMethod ⟨"OneLamp$Pictures", "add", "(I)V"⟩) ∈ g_tbl := tm_1 (List.mem_of_getElem? (i := 54) rfl) rfl
theorem mw_1_55 : (Cond.selects "OneLamp$Pictures" ⟨"OneLamp$Pictures", "add", "(I)V"⟩ ⟨"OneLamp$Pictures", "add", "(I)V"⟩) ∈ g_tbl := tm_1 (List.mem_of_getElem? (i := 55) rfl) rfl
theorem mw_1_56 : (Cond.code ⟨"OneLamp$Pictures", "add", "(I)V"⟩ prog_5_method_4_code 2 (Option.none : Option Jvm.ClassFile.FieldType)) ∈ g_tbl := tm_1 (List.mem_of_getElem? (i := 56) rfl) rfl
theorem mw_1_57 : (Cond.methodLink "OneLamp$Pictures" 15 ⟨"OneLamp$Pictures", "fits", "(I)Z"⟩) ∈ g_tbl := tm_1 (List.mem_of_getElem? (i := 57) rfl) rfl
theorem mw_1_58 : (Cond.static ⟨"OneLamp$Pictures", "fits", "(I)Z"⟩) ∈ g_tbl := tm_1 (List.mem_of_getElem? (i := 58) rfl) rfl
theorem mw_1_59 : (Cond.code ⟨"OneLamp$Pictures", "fits", "(I)Z"⟩ prog_5_method_2_code 1 (Option.some .boolean)) ∈ g_tbl := tm_1 (List.mem_of_getElem? (i := 59) rfl) rfl
theorem mw_1_60 : (Cond.methodLink "OneLamp$Wall" 51 ⟨"java/util/Arrays", "fill", "([II)V"⟩) ∈ g_tbl := tm_1 (List.mem_of_getElem? (i := 60) rfl) rfl
theorem mw_1_61 : (Cond.static ⟨"java/util/Arrays", "fill", "([II)V"⟩) ∈ g_tbl := tm_1 (List.mem_of_getElem? (i := 61) rfl) rfl
theorem mw_1_62 : (Cond.code ⟨"java/util/Arrays", "fill", "([II)V"⟩ prog_17_method_103_code 4 (Option.none : Option Jvm.ClassFile.FieldType)) ∈ g_tbl := tm_1 (List.mem_of_getElem? (i := 62) rfl) rfl
theorem mw_1_63 : (Cond.fieldLink "OneLamp$Wall" 9 "OneLamp$Wall" "lamps" "I") ∈ g_tbl := tm_1 (List.mem_of_getElem? (i := 63) rfl) rfl
theorem mw_1_64 : (Cond.fieldLink "OneLamp" 61 "OneLamp$Wall" "lamps" "I") ∈ g_tbl := tm_1 (List.mem_of_getElem? (i := 64) rfl) rfl
theorem mw_1_65 : (Cond.fieldLink "OneLamp$Rules" 35 "OneLamp$Wall" "lamps" "I") ∈ g_tbl := tm_1 (List.mem_of_getElem? (i := 65) rfl) rfl
theorem mw_1_66 : (Cond.fieldLink "OneLamp$Thought" 88 "OneLamp$Wall" "lamps" "I") ∈ g_tbl := tm_1 (List.mem_of_getElem? (i := 66) rfl) rfl
theorem mw_1_67 : (Cond.fieldLink "OneLamp$Wall" 36 "OneLamp$Wall" "picture" "I") ∈ g_tbl := tm_1 (List.mem_of_getElem? (i := 67) rfl) rfl
theorem mw_1_68 : (Cond.fieldLink "OneLamp$Rules" 69 "OneLamp$Wall" "picture" "I") ∈ g_tbl := tm_1 (List.mem_of_getElem? (i := 68) rfl) rfl
theorem mw_1_69 : (Cond.fieldLink "OneLamp$Thought" 98 "OneLamp$Wall" "picture" "I") ∈ g_tbl := tm_1 (List.mem_of_getElem? (i := 69) rfl) rfl
theorem mw_1_70 : (Cond.fieldLink "OneLamp" 139 "OneLamp$Wall" "picture" "I") ∈ g_tbl := tm_1 (List.mem_of_getElem? (i := 70) rfl) rfl
theorem mw_1_71 : (Cond.fieldLink "OneLamp$Wall" 39 "OneLamp$Wall" "night" "I") ∈ g_tbl := tm_1 (List.mem_of_getElem? (i := 71) rfl) rfl
theorem mw_1_72 : (Cond.fieldLink "OneLamp$Rules" 88 "OneLamp$Wall" "night" "I") ∈ g_tbl := tm_1 (List.mem_of_getElem? (i := 72) rfl) rfl
theorem mw_1_73 : (Cond.fieldLink "OneLamp" 142 "OneLamp$Wall" "night" "I") ∈ g_tbl := tm_1 (List.mem_of_getElem? (i := 73) rfl) rfl
theorem mw_1_74 : (Cond.fieldLink "OneLamp$Wall" 42 "OneLamp$Wall" "spent" "I") ∈ g_tbl := tm_1 (List.mem_of_getElem? (i := 74) rfl) rfl
theorem mw_1_75 : (Cond.fieldLink "OneLamp" 151 "OneLamp$Wall" "spent" "I") ∈ g_tbl := tm_1 (List.mem_of_getElem? (i := 75) rfl) rfl
theorem mw_1_76 : (Cond.fieldLink "OneLamp$Wall" 18 "OneLamp$Wall" "had" "LOneLamp$Pictures;") ∈ g_tbl := tm_1 (List.mem_of_getElem? (i := 76) rfl) rfl
theorem mw_1_77 : (Cond.fieldLink "OneLamp$Rules" 72 "OneLamp$Wall" "had" "LOneLamp$Pictures;") ∈ g_tbl := tm_1 (List.mem_of_getElem? (i := 77) rfl) rfl
theorem mw_1_78 : (Cond.fieldLink "OneLamp" 145 "OneLamp$Wall" "had" "LOneLamp$Pictures;") ∈ g_tbl := tm_1 (List.mem_of_getElem? (i := 78) rfl) rfl
theorem mw_1_79 : (Cond.fieldLink "OneLamp$Thought" 101 "OneLamp$Wall" "had" "LOneLamp$Pictures;") ∈ g_tbl := tm_1 (List.mem_of_getElem? (i := 79) rfl) rfl
theorem mw_1_80 : (Cond.fieldLink "OneLamp$Wall" 22 "OneLamp$Wall" "told" "LOneLamp$Pictures;") ∈ g_tbl := tm_1 (List.mem_of_getElem? (i := 80) rfl) rfl
theorem mw_1_81 : (Cond.fieldLink "OneLamp" 65 "OneLamp$Wall" "told" "LOneLamp$Pictures;") ∈ g_tbl := tm_1 (List.mem_of_getElem? (i := 81) rfl) rfl
theorem mw_1_82 : (Cond.fieldLink "OneLamp$Rules" 59 "OneLamp$Wall" "told" "LOneLamp$Pictures;") ∈ g_tbl := tm_1 (List.mem_of_getElem? (i := 82) rfl) rfl
theorem mw_1_83 : (Cond.fieldLink "OneLamp$Wall" 25 "OneLamp$Wall" "last" "[I") ∈ g_tbl := tm_1 (List.mem_of_getElem? (i := 83) rfl) rfl
theorem mw_1_84 : (Cond.fieldLink "OneLamp$Wall" 29 "OneLamp$Wall" "often" "[I") ∈ g_tbl := tm_1 (List.mem_of_getElem? (i := 84) rfl) rfl
theorem mw_1_85 : (Cond.lays "OneLamp$Wall" "OneLamp$Wall" "lamps" "I") ∈ g_tbl := tm_1 (List.mem_of_getElem? (i := 85) rfl) rfl
theorem mw_1_87 : (Cond.lays "OneLamp$Wall" "OneLamp$Wall" "picture" "I") ∈ g_tbl := tm_1 (List.mem_of_getElem? (i := 87) rfl) rfl
theorem mw_1_89 : (Cond.lays "OneLamp$Wall" "OneLamp$Wall" "night" "I") ∈ g_tbl := tm_1 (List.mem_of_getElem? (i := 89) rfl) rfl
theorem mw_1_91 : (Cond.lays "OneLamp$Wall" "OneLamp$Wall" "spent" "I") ∈ g_tbl := tm_1 (List.mem_of_getElem? (i := 91) rfl) rfl
theorem mw_1_93 : (Cond.laysFinal "OneLamp$Wall" "OneLamp$Wall" "had" "LOneLamp$Pictures;") ∈ g_tbl := tm_1 (List.mem_of_getElem? (i := 93) rfl) rfl
theorem mw_1_95 : (Cond.laysFinal "OneLamp$Wall" "OneLamp$Wall" "told" "LOneLamp$Pictures;") ∈ g_tbl := tm_1 (List.mem_of_getElem? (i := 95) rfl) rfl
theorem mw_1_97 : (Cond.laysFinal "OneLamp$Wall" "OneLamp$Wall" "last" "[I") ∈ g_tbl := tm_1 (List.mem_of_getElem? (i := 97) rfl) rfl
theorem mw_1_99 : (Cond.laysFinal "OneLamp$Wall" "OneLamp$Wall" "often" "[I") ∈ g_tbl := tm_1 (List.mem_of_getElem? (i := 99) rfl) rfl
theorem mw_1_102 : (Cond.arrayClass .int) ∈ g_tbl := tm_1 (List.mem_of_getElem? (i := 102) rfl) rfl
theorem mw_1_103 : (Cond.classLink "OneLamp" 19 "OneLamp$Rules") ∈ g_tbl := tm_1 (List.mem_of_getElem? (i := 103) rfl) rfl
theorem mw_1_104 : (Cond.instantiable "OneLamp$Rules" 6) ∈ g_tbl := tm_1 (List.mem_of_getElem? (i := 104) rfl) rfl
theorem mw_1_105 : (Cond.methodLink "OneLamp" 21 ⟨"OneLamp$Rules", "<init>", "()V"⟩) ∈ g_tbl := tm_1 (List.mem_of_getElem? (i := 105) rfl) rfl
theorem mw_1_106 : (Cond.instanceMethod ⟨"OneLamp$Rules", "<init>", "()V"⟩) ∈ g_tbl := tm_1 (List.mem_of_getElem? (i := 106) rfl) rfl
theorem mw_1_107 : (Cond.code ⟨"OneLamp$Rules", "<init>", "()V"⟩ prog_6_method_1_code 1 (Option.none : Option Jvm.ClassFile.FieldType)) ∈ g_tbl := tm_1 (List.mem_of_getElem? (i := 107) rfl) rfl
theorem mw_1_108 : (Cond.methodLink "OneLamp$Rules" 3 ⟨"java/lang/Object", "<init>", "()V"⟩) ∈ g_tbl := tm_1 (List.mem_of_getElem? (i := 108) rfl) rfl
theorem mw_1_109 : (Cond.classLink "OneLamp$Rules" 9 "OneLamp$Law") ∈ g_tbl := tm_1 (List.mem_of_getElem? (i := 109) rfl) rfl
theorem mw_1_110 : (Cond.instantiable "OneLamp$Law" 4) ∈ g_tbl := tm_1 (List.mem_of_getElem? (i := 110) rfl) rfl
theorem mw_1_111 : (Cond.methodLink "OneLamp$Rules" 11 ⟨"OneLamp$Law", "<init>", "()V"⟩) ∈ g_tbl := tm_1 (List.mem_of_getElem? (i := 111) rfl) rfl
theorem mw_1_112 : (Cond.instanceMethod ⟨"OneLamp$Law", "<init>", "()V"⟩) ∈ g_tbl := tm_1 (List.mem_of_getElem? (i := 112) rfl) rfl
theorem mw_1_113 : (Cond.code ⟨"OneLamp$Law", "<init>", "()V"⟩ prog_4_method_1_code 1 (Option.none : Option Jvm.ClassFile.FieldType)) ∈ g_tbl := tm_1 (List.mem_of_getElem? (i := 113) rfl) rfl
theorem mw_1_114 : (Cond.methodLink "OneLamp$Law" 3 ⟨"java/lang/Object", "<init>", "()V"⟩) ∈ g_tbl := tm_1 (List.mem_of_getElem? (i := 114) rfl) rfl
theorem mw_1_115 : (Cond.fieldLink "OneLamp$Law" 11 "OneLamp$Law" "code" "[I") ∈ g_tbl := tm_1 (List.mem_of_getElem? (i := 115) rfl) rfl
theorem mw_1_116 : (Cond.fieldLink "OneLamp$Law" 24 "OneLamp$Law" "length" "I") ∈ g_tbl := tm_1 (List.mem_of_getElem? (i := 116) rfl) rfl
theorem mw_1_117 : (Cond.fieldLink "OneLamp$Law" 15 "OneLamp$Law" "stack" "[I") ∈ g_tbl := tm_1 (List.mem_of_getElem? (i := 117) rfl) rfl
theorem mw_1_118 : (Cond.fieldLink "OneLamp$Law" 28 "OneLamp$Law" "top" "I") ∈ g_tbl := tm_1 (List.mem_of_getElem? (i := 118) rfl) rfl
theorem mw_1_119 : (Cond.laysFinal "OneLamp$Law" "OneLamp$Law" "code" "[I") ∈ g_tbl := tm_1 (List.mem_of_getElem? (i := 119) rfl) rfl
theorem mw_1_121 : (Cond.lays "OneLamp$Law" "OneLamp$Law" "length" "I") ∈ g_tbl := tm_1 (List.mem_of_getElem? (i := 121) rfl) rfl
theorem mw_1_123 : (Cond.laysFinal "OneLamp$Law" "OneLamp$Law" "stack" "[I") ∈ g_tbl := tm_1 (List.mem_of_getElem? (i := 123) rfl) rfl
theorem mw_1_125 : (Cond.lays "OneLamp$Law" "OneLamp$Law" "top" "I") ∈ g_tbl := tm_1 (List.mem_of_getElem? (i := 125) rfl) rfl
theorem mw_1_128 : (Cond.classLink "OneLamp$Rules" 18 "OneLamp$Pictures") ∈ g_tbl := tm_1 (List.mem_of_getElem? (i := 128) rfl) rfl
theorem mw_1_129 : (Cond.methodLink "OneLamp$Rules" 20 ⟨"OneLamp$Pictures", "<init>", "()V"⟩) ∈ g_tbl := tm_1 (List.mem_of_getElem? (i := 129) rfl) rfl
theorem mw_1_130 : (Cond.fieldLink "OneLamp$Rules" 91 "OneLamp$Rules" "rest" "I") ∈ g_tbl := tm_1 (List.mem_of_getElem? (i := 130) rfl) rfl
theorem mw_1_131 : (Cond.fieldLink "OneLamp" 125 "OneLamp$Rules" "rest" "I") ∈ g_tbl := tm_1 (List.mem_of_getElem? (i := 131) rfl) rfl
theorem mw_1_132 : (Cond.fieldLink "OneLamp$Rules" 78 "OneLamp$Rules" "shy" "I") ∈ g_tbl := tm_1 (List.mem_of_getElem? (i := 132) rfl) rfl
theorem mw_1_133 : (Cond.fieldLink "OneLamp" 128 "OneLamp$Rules" "shy" "I") ∈ g_tbl := tm_1 (List.mem_of_getElem? (i := 133) rfl) rfl
theorem mw_1_134 : (Cond.fieldLink "OneLamp$Rules" 12 "OneLamp$Rules" "law" "LOneLamp$Law;") ∈ g_tbl := tm_1 (List.mem_of_getElem? (i := 134) rfl) rfl
theorem mw_1_135 : (Cond.fieldLink "OneLamp$Rules" 21 "OneLamp$Rules" "asked" "LOneLamp$Pictures;") ∈ g_tbl := tm_1 (List.mem_of_getElem? (i := 135) rfl) rfl
theorem mw_1_136 : (Cond.fieldLink "OneLamp$Rules" 25 "OneLamp$Rules" "forbidden" "LOneLamp$Pictures;") ∈ g_tbl := tm_1 (List.mem_of_getElem? (i := 136) rfl) rfl
theorem mw_1_137 : (Cond.fieldLink "OneLamp$Rules" 41 "OneLamp$Rules" "askedForLamps" "I") ∈ g_tbl := tm_1 (List.mem_of_getElem? (i := 137) rfl) rfl
theorem mw_1_138 : (Cond.lays "OneLamp$Rules" "OneLamp$Rules" "rest" "I") ∈ g_tbl := tm_1 (List.mem_of_getElem? (i := 138) rfl) rfl
theorem mw_1_140 : (Cond.lays "OneLamp$Rules" "OneLamp$Rules" "shy" "I") ∈ g_tbl := tm_1 (List.mem_of_getElem? (i := 140) rfl) rfl
theorem mw_1_142 : (Cond.laysFinal "OneLamp$Rules" "OneLamp$Rules" "law" "LOneLamp$Law;") ∈ g_tbl := tm_1 (List.mem_of_getElem? (i := 142) rfl) rfl
theorem mw_1_144 : (Cond.laysFinal "OneLamp$Rules" "OneLamp$Rules" "asked" "LOneLamp$Pictures;") ∈ g_tbl := tm_1 (List.mem_of_getElem? (i := 144) rfl) rfl
theorem mw_1_146 : (Cond.laysFinal "OneLamp$Rules" "OneLamp$Rules" "forbidden" "LOneLamp$Pictures;") ∈ g_tbl := tm_1 (List.mem_of_getElem? (i := 146) rfl) rfl
theorem mw_1_148 : (Cond.lays "OneLamp$Rules" "OneLamp$Rules" "askedForLamps" "I") ∈ g_tbl := tm_1 (List.mem_of_getElem? (i := 148) rfl) rfl
theorem mw_1_151 : (Cond.classLink "OneLamp" 26 "OneLamp$Tape") ∈ g_tbl := tm_1 (List.mem_of_getElem? (i := 151) rfl) rfl
theorem mw_1_152 : (Cond.instantiable "OneLamp$Tape" 5) ∈ g_tbl := tm_1 (List.mem_of_getElem? (i := 152) rfl) rfl
theorem mw_1_153 : (Cond.methodLink "OneLamp" 28 ⟨"OneLamp$Tape", "<init>", "()V"⟩) ∈ g_tbl := tm_1 (List.mem_of_getElem? (i := 153) rfl) rfl
theorem mw_1_154 : (Cond.instanceMethod ⟨"OneLamp$Tape", "<init>", "()V"⟩) ∈ g_tbl := tm_1 (List.mem_of_getElem? (i := 154) rfl) rfl
theorem mw_1_155 : (Cond.code ⟨"OneLamp$Tape", "<init>", "()V"⟩ prog_9_method_1_code 1 (Option.none : Option Jvm.ClassFile.FieldType)) ∈ g_tbl := tm_1 (List.mem_of_getElem? (i := 155) rfl) rfl
theorem mw_1_156 : (Cond.methodLink "OneLamp$Tape" 1 ⟨"java/lang/Object", "<init>", "()V"⟩) ∈ g_tbl := tm_1 (List.mem_of_getElem? (i := 156) rfl) rfl
theorem mw_1_157 : (Cond.fieldLink "OneLamp$Tape" 9 "OneLamp$Tape" "letters" "[I") ∈ g_tbl := tm_1 (List.mem_of_getElem? (i := 157) rfl) rfl
theorem mw_1_158 : (Cond.fieldLink "OneLamp$Tape" 18 "OneLamp$Tape" "length" "I") ∈ g_tbl := tm_1 (List.mem_of_getElem? (i := 158) rfl) rfl
theorem mw_1_159 : (Cond.fieldLink "OneLamp" 107 "OneLamp$Tape" "length" "I") ∈ g_tbl := tm_1 (List.mem_of_getElem? (i := 159) rfl) rfl
theorem mw_1_160 : (Cond.fieldLink "OneLamp$Tape" 15 "OneLamp$Tape" "code" "[I") ∈ g_tbl := tm_1 (List.mem_of_getElem? (i := 160) rfl) rfl
theorem mw_1_161 : (Cond.fieldLink "OneLamp" 114 "OneLamp$Tape" "code" "[I") ∈ g_tbl := tm_1 (List.mem_of_getElem? (i := 161) rfl) rfl
theorem mw_1_162 : (Cond.fieldLink "OneLamp$Tape" 25 "OneLamp$Tape" "codeLength" "I") ∈ g_tbl := tm_1 (List.mem_of_getElem? (i := 162) rfl) rfl
theorem mw_1_163 : (Cond.fieldLink "OneLamp" 118 "OneLamp$Tape" "codeLength" "I") ∈ g_tbl := tm_1 (List.mem_of_getElem? (i := 163) rfl) rfl
theorem mw_1_164 : (Cond.fieldLink "OneLamp$Tape" 22 "OneLamp$Tape" "at" "I") ∈ g_tbl := tm_1 (List.mem_of_getElem? (i := 164) rfl) rfl
theorem mw_1_165 : (Cond.laysFinal "OneLamp$Tape" "OneLamp$Tape" "letters" "[I") ∈ g_tbl := tm_1 (List.mem_of_getElem? (i := 165) rfl) rfl
theorem mw_1_167 : (Cond.lays "OneLamp$Tape" "OneLamp$Tape" "length" "I") ∈ g_tbl := tm_1 (List.mem_of_getElem? (i := 167) rfl) rfl
theorem mw_1_169 : (Cond.laysFinal "OneLamp$Tape" "OneLamp$Tape" "code" "[I") ∈ g_tbl := tm_1 (List.mem_of_getElem? (i := 169) rfl) rfl
theorem mw_1_171 : (Cond.lays "OneLamp$Tape" "OneLamp$Tape" "codeLength" "I") ∈ g_tbl := tm_1 (List.mem_of_getElem? (i := 171) rfl) rfl
theorem mw_1_173 : (Cond.lays "OneLamp$Tape" "OneLamp$Tape" "at" "I") ∈ g_tbl := tm_1 (List.mem_of_getElem? (i := 173) rfl) rfl
theorem mw_1_176 : (Cond.classLink "OneLamp" 33 "OneLamp$Costs") ∈ g_tbl := tm_1 (List.mem_of_getElem? (i := 176) rfl) rfl
theorem mw_1_177 : (Cond.instantiable "OneLamp$Costs" 7) ∈ g_tbl := tm_1 (List.mem_of_getElem? (i := 177) rfl) rfl
theorem mw_1_178 : (Cond.methodLink "OneLamp" 35 ⟨"OneLamp$Costs", "<init>", "()V"⟩) ∈ g_tbl := tm_1 (List.mem_of_getElem? (i := 178) rfl) rfl
theorem mw_1_179 : (Cond.instanceMethod ⟨"OneLamp$Costs", "<init>", "()V"⟩) ∈ g_tbl := tm_1 (List.mem_of_getElem? (i := 179) rfl) rfl
theorem mw_1_180 : (Cond.code ⟨"OneLamp$Costs", "<init>", "()V"⟩ prog_3_method_1_code 1 (Option.none : Option Jvm.ClassFile.FieldType)) ∈ g_tbl := tm_1 (List.mem_of_getElem? (i := 180) rfl) rfl
theorem mw_1_181 : (Cond.methodLink "OneLamp$Costs" 3 ⟨"java/lang/Object", "<init>", "()V"⟩) ∈ g_tbl := tm_1 (List.mem_of_getElem? (i := 181) rfl) rfl
theorem mw_1_182 : (Cond.methodLink "OneLamp$Costs" 15 ⟨"java/util/Arrays", "fill", "([II)V"⟩) ∈ g_tbl := tm_1 (List.mem_of_getElem? (i := 182) rfl) rfl
theorem mw_1_183 : (Cond.fieldLink "OneLamp$Costs" 9 "OneLamp$Costs" "prices" "[I") ∈ g_tbl := tm_1 (List.mem_of_getElem? (i := 183) rfl) rfl
theorem mw_1_184 : (Cond.fieldLink "OneLamp$Costs" 21 "OneLamp$Costs" "lamps" "[I") ∈ g_tbl := tm_1 (List.mem_of_getElem? (i := 184) rfl) rfl
theorem mw_1_185 : (Cond.fieldLink "OneLamp$Costs" 24 "OneLamp$Costs" "before" "[I") ∈ g_tbl := tm_1 (List.mem_of_getElem? (i := 185) rfl) rfl
theorem mw_1_186 : (Cond.fieldLink "OneLamp$Costs" 27 "OneLamp$Costs" "after" "[I") ∈ g_tbl := tm_1 (List.mem_of_getElem? (i := 186) rfl) rfl
theorem mw_1_187 : (Cond.fieldLink "OneLamp$Costs" 30 "OneLamp$Costs" "sorted" "[I") ∈ g_tbl := tm_1 (List.mem_of_getElem? (i := 187) rfl) rfl
theorem mw_1_188 : (Cond.fieldLink "OneLamp$Costs" 41 "OneLamp$Costs" "done" "I") ∈ g_tbl := tm_1 (List.mem_of_getElem? (i := 188) rfl) rfl
theorem mw_1_189 : (Cond.fieldLink "OneLamp" 233 "OneLamp$Costs" "done" "I") ∈ g_tbl := tm_1 (List.mem_of_getElem? (i := 189) rfl) rfl
theorem mw_1_190 : (Cond.fieldLink "OneLamp$Costs" 37 "OneLamp$Costs" "undone" "I") ∈ g_tbl := tm_1 (List.mem_of_getElem? (i := 190) rfl) rfl
theorem mw_1_191 : (Cond.fieldLink "OneLamp" 239 "OneLamp$Costs" "undone" "I") ∈ g_tbl := tm_1 (List.mem_of_getElem? (i := 191) rfl) rfl
theorem mw_1_192 : (Cond.laysFinal "OneLamp$Costs" "OneLamp$Costs" "prices" "[I") ∈ g_tbl := tm_1 (List.mem_of_getElem? (i := 192) rfl) rfl
theorem mw_1_194 : (Cond.laysFinal "OneLamp$Costs" "OneLamp$Costs" "lamps" "[I") ∈ g_tbl := tm_1 (List.mem_of_getElem? (i := 194) rfl) rfl
theorem mw_1_196 : (Cond.laysFinal "OneLamp$Costs" "OneLamp$Costs" "before" "[I") ∈ g_tbl := tm_1 (List.mem_of_getElem? (i := 196) rfl) rfl
theorem mw_1_198 : (Cond.laysFinal "OneLamp$Costs" "OneLamp$Costs" "after" "[I") ∈ g_tbl := tm_1 (List.mem_of_getElem? (i := 198) rfl) rfl
theorem mw_1_200 : (Cond.laysFinal "OneLamp$Costs" "OneLamp$Costs" "sorted" "[I") ∈ g_tbl := tm_1 (List.mem_of_getElem? (i := 200) rfl) rfl
theorem mw_1_202 : (Cond.lays "OneLamp$Costs" "OneLamp$Costs" "done" "I") ∈ g_tbl := tm_1 (List.mem_of_getElem? (i := 202) rfl) rfl
theorem mw_1_204 : (Cond.lays "OneLamp$Costs" "OneLamp$Costs" "undone" "I") ∈ g_tbl := tm_1 (List.mem_of_getElem? (i := 204) rfl) rfl
theorem mw_1_207 : (Cond.classLink "OneLamp" 40 "OneLamp$Thought") ∈ g_tbl := tm_1 (List.mem_of_getElem? (i := 207) rfl) rfl
theorem mw_1_208 : (Cond.instantiable "OneLamp$Thought" 6) ∈ g_tbl := tm_1 (List.mem_of_getElem? (i := 208) rfl) rfl
theorem mw_1_209 : (Cond.methodLink "OneLamp" 42 ⟨"OneLamp$Thought", "<init>", "()V"⟩) ∈ g_tbl := tm_1 (List.mem_of_getElem? (i := 209) rfl) rfl
theorem mw_1_210 : (Cond.instanceMethod ⟨"OneLamp$Thought", "<init>", "()V"⟩) ∈ g_tbl := tm_1 (List.mem_of_getElem? (i := 210) rfl) rfl
theorem mw_1_211 : (Cond.code ⟨"OneLamp$Thought", "<init>", "()V"⟩ prog_10_method_1_code 1 (Option.none : Option Jvm.ClassFile.FieldType)) ∈ g_tbl := tm_1 (List.mem_of_getElem? (i := 211) rfl) rfl
theorem mw_1_212 : (Cond.methodLink "OneLamp$Thought" 3 ⟨"java/lang/Object", "<init>", "()V"⟩) ∈ g_tbl := tm_1 (List.mem_of_getElem? (i := 212) rfl) rfl
theorem mw_1_213 : (Cond.classLink "OneLamp$Thought" 9 "OneLamp$Wall") ∈ g_tbl := tm_1 (List.mem_of_getElem? (i := 213) rfl) rfl
theorem mw_1_214 : (Cond.methodLink "OneLamp$Thought" 11 ⟨"OneLamp$Wall", "<init>", "()V"⟩) ∈ g_tbl := tm_1 (List.mem_of_getElem? (i := 214) rfl) rfl
theorem mw_1_215 : (Cond.fieldLink "OneLamp$Thought" 12 "OneLamp$Thought" "wall" "LOneLamp$Wall;") ∈ g_tbl := tm_1 (List.mem_of_getElem? (i := 215) rfl) rfl
theorem mw_1_216 : (Cond.fieldLink "OneLamp$Thought" 18 "OneLamp$Thought" "way" "[I") ∈ g_tbl := tm_1 (List.mem_of_getElem? (i := 216) rfl) rfl
theorem mw_1_217 : (Cond.fieldLink "OneLamp$Thought" 22 "OneLamp$Thought" "best" "[I") ∈ g_tbl := tm_1 (List.mem_of_getElem? (i := 217) rfl) rfl
theorem mw_1_218 : (Cond.fieldLink "OneLamp$Thought" 25 "OneLamp$Thought" "bestLength" "I") ∈ g_tbl := tm_1 (List.mem_of_getElem? (i := 218) rfl) rfl
theorem mw_1_219 : (Cond.fieldLink "OneLamp$Thought" 95 "OneLamp$Thought" "open" "I") ∈ g_tbl := tm_1 (List.mem_of_getElem? (i := 219) rfl) rfl
theorem mw_1_220 : (Cond.fieldLink "OneLamp$Thought" 37 "OneLamp$Thought" "found" "I") ∈ g_tbl := tm_1 (List.mem_of_getElem? (i := 220) rfl) rfl
theorem mw_1_221 : (Cond.laysFinal "OneLamp$Thought" "OneLamp$Thought" "wall" "LOneLamp$Wall;") ∈ g_tbl := tm_1 (List.mem_of_getElem? (i := 221) rfl) rfl
theorem mw_1_223 : (Cond.laysFinal "OneLamp$Thought" "OneLamp$Thought" "way" "[I") ∈ g_tbl := tm_1 (List.mem_of_getElem? (i := 223) rfl) rfl
theorem mw_1_225 : (Cond.laysFinal "OneLamp$Thought" "OneLamp$Thought" "best" "[I") ∈ g_tbl := tm_1 (List.mem_of_getElem? (i := 225) rfl) rfl
theorem mw_1_227 : (Cond.lays "OneLamp$Thought" "OneLamp$Thought" "bestLength" "I") ∈ g_tbl := tm_1 (List.mem_of_getElem? (i := 227) rfl) rfl
theorem mw_1_229 : (Cond.lays "OneLamp$Thought" "OneLamp$Thought" "open" "I") ∈ g_tbl := tm_1 (List.mem_of_getElem? (i := 229) rfl) rfl
theorem mw_1_231 : (Cond.lays "OneLamp$Thought" "OneLamp$Thought" "found" "I") ∈ g_tbl := tm_1 (List.mem_of_getElem? (i := 231) rfl) rfl
theorem mw_1_234 : (Cond.classLink "OneLamp" 47 "OneLamp$Acts") ∈ g_tbl := tm_1 (List.mem_of_getElem? (i := 234) rfl) rfl
theorem mw_1_235 : (Cond.instantiable "OneLamp$Acts" 5) ∈ g_tbl := tm_1 (List.mem_of_getElem? (i := 235) rfl) rfl
theorem mw_1_236 : (Cond.methodLink "OneLamp" 49 ⟨"OneLamp$Acts", "<init>", "()V"⟩) ∈ g_tbl := tm_1 (List.mem_of_getElem? (i := 236) rfl) rfl
theorem mw_1_237 : (Cond.instanceMethod ⟨"OneLamp$Acts", "<init>", "()V"⟩) ∈ g_tbl := tm_1 (List.mem_of_getElem? (i := 237) rfl) rfl
theorem mw_1_238 : (Cond.code ⟨"OneLamp$Acts", "<init>", "()V"⟩ prog_2_method_1_code 1 (Option.none : Option Jvm.ClassFile.FieldType)) ∈ g_tbl := tm_1 (List.mem_of_getElem? (i := 238) rfl) rfl
theorem mw_1_239 : (Cond.methodLink "OneLamp$Acts" 3 ⟨"java/lang/Object", "<init>", "()V"⟩) ∈ g_tbl := tm_1 (List.mem_of_getElem? (i := 239) rfl) rfl
theorem mw_2_0 : (Cond.fieldLink "OneLamp$Acts" 9 "OneLamp$Acts" "kinds" "[I") ∈ g_tbl := tm_2 (List.mem_of_getElem? (i := 0) rfl) rfl
theorem mw_2_1 : (Cond.fieldLink "OneLamp$Acts" 25 "OneLamp$Acts" "bodies" "I") ∈ g_tbl := tm_2 (List.mem_of_getElem? (i := 1) rfl) rfl
theorem mw_2_2 : (Cond.fieldLink "OneLamp" 246 "OneLamp$Acts" "bodies" "I") ∈ g_tbl := tm_2 (List.mem_of_getElem? (i := 2) rfl) rfl
theorem mw_2_3 : (Cond.fieldLink "OneLamp$Acts" 15 "OneLamp$Acts" "trace" "[I") ∈ g_tbl := tm_2 (List.mem_of_getElem? (i := 3) rfl) rfl
theorem mw_2_4 : (Cond.fieldLink "OneLamp$Acts" 32 "OneLamp$Acts" "ran" "I") ∈ g_tbl := tm_2 (List.mem_of_getElem? (i := 4) rfl) rfl
theorem mw_2_5 : (Cond.fieldLink "OneLamp" 308 "OneLamp$Acts" "ran" "I") ∈ g_tbl := tm_2 (List.mem_of_getElem? (i := 5) rfl) rfl
theorem mw_2_6 : (Cond.fieldLink "OneLamp$Acts" 38 "OneLamp$Acts" "number" "I") ∈ g_tbl := tm_2 (List.mem_of_getElem? (i := 6) rfl) rfl
theorem mw_2_7 : (Cond.laysFinal "OneLamp$Acts" "OneLamp$Acts" "kinds" "[I") ∈ g_tbl := tm_2 (List.mem_of_getElem? (i := 7) rfl) rfl
theorem mw_2_9 : (Cond.lays "OneLamp$Acts" "OneLamp$Acts" "bodies" "I") ∈ g_tbl := tm_2 (List.mem_of_getElem? (i := 9) rfl) rfl
theorem mw_2_11 : (Cond.laysFinal "OneLamp$Acts" "OneLamp$Acts" "trace" "[I") ∈ g_tbl := tm_2 (List.mem_of_getElem? (i := 11) rfl) rfl
theorem mw_2_13 : (Cond.lays "OneLamp$Acts" "OneLamp$Acts" "ran" "I") ∈ g_tbl := tm_2 (List.mem_of_getElem? (i := 13) rfl) rfl
theorem mw_2_15 : (Cond.lays "OneLamp$Acts" "OneLamp$Acts" "number" "I") ∈ g_tbl := tm_2 (List.mem_of_getElem? (i := 15) rfl) rfl
theorem mw_2_18 : (Cond.classLink "OneLamp" 54 "OneLamp$Shelf") ∈ g_tbl := tm_2 (List.mem_of_getElem? (i := 18) rfl) rfl
theorem mw_2_20 : (Cond.instantiable "OneLamp$Shelf" 5) ∈ g_tbl := tm_2 (List.mem_of_getElem? (i := 20) rfl) rfl
theorem mw_2_21 : (Cond.methodLink "OneLamp" 60 ⟨"OneLamp$Shelf", "<init>", "()V"⟩) ∈ g_tbl := tm_2 (List.mem_of_getElem? (i := 21) rfl) rfl
theorem mw_2_22 : (Cond.instanceMethod ⟨"OneLamp$Shelf", "<init>", "()V"⟩) ∈ g_tbl := tm_2 (List.mem_of_getElem? (i := 22) rfl) rfl
theorem mw_2_23 : (Cond.code ⟨"OneLamp$Shelf", "<init>", "()V"⟩ prog_7_method_1_code 1 (Option.none : Option Jvm.ClassFile.FieldType)) ∈ g_tbl := tm_2 (List.mem_of_getElem? (i := 23) rfl) rfl
theorem mw_2_24 : (Cond.methodLink "OneLamp$Shelf" 3 ⟨"java/lang/Object", "<init>", "()V"⟩) ∈ g_tbl := tm_2 (List.mem_of_getElem? (i := 24) rfl) rfl
theorem mw_2_25 : (Cond.fieldLink "OneLamp$Shelf" 15 "OneLamp$Shelf" "holds" "I") ∈ g_tbl := tm_2 (List.mem_of_getElem? (i := 25) rfl) rfl
theorem mw_2_26 : (Cond.fieldLink "OneLamp$Shelf" 22 "OneLamp$Shelf" "body" "I") ∈ g_tbl := tm_2 (List.mem_of_getElem? (i := 26) rfl) rfl
theorem mw_2_27 : (Cond.fieldLink "OneLamp" 299 "OneLamp$Shelf" "body" "I") ∈ g_tbl := tm_2 (List.mem_of_getElem? (i := 27) rfl) rfl
theorem mw_2_28 : (Cond.fieldLink "OneLamp$Shelf" 19 "OneLamp$Shelf" "sort" "I") ∈ g_tbl := tm_2 (List.mem_of_getElem? (i := 28) rfl) rfl
theorem mw_2_29 : (Cond.fieldLink "OneLamp" 286 "OneLamp$Shelf" "sort" "I") ∈ g_tbl := tm_2 (List.mem_of_getElem? (i := 29) rfl) rfl
theorem mw_2_30 : (Cond.fieldLink "OneLamp$Thought" 55 "OneLamp$Shelf" "length" "I") ∈ g_tbl := tm_2 (List.mem_of_getElem? (i := 30) rfl) rfl
theorem mw_2_31 : (Cond.fieldLink "OneLamp$Shelf" 25 "OneLamp$Shelf" "length" "I") ∈ g_tbl := tm_2 (List.mem_of_getElem? (i := 31) rfl) rfl
theorem mw_2_32 : (Cond.fieldLink "OneLamp$Shelf" 9 "OneLamp$Shelf" "elements" "[J") ∈ g_tbl := tm_2 (List.mem_of_getElem? (i := 32) rfl) rfl
theorem mw_2_33 : (Cond.lays "OneLamp$Shelf" "OneLamp$Shelf" "holds" "I") ∈ g_tbl := tm_2 (List.mem_of_getElem? (i := 33) rfl) rfl
theorem mw_2_35 : (Cond.lays "OneLamp$Shelf" "OneLamp$Shelf" "body" "I") ∈ g_tbl := tm_2 (List.mem_of_getElem? (i := 35) rfl) rfl
theorem mw_2_37 : (Cond.lays "OneLamp$Shelf" "OneLamp$Shelf" "sort" "I") ∈ g_tbl := tm_2 (List.mem_of_getElem? (i := 37) rfl) rfl
theorem mw_2_39 : (Cond.lays "OneLamp$Shelf" "OneLamp$Shelf" "length" "I") ∈ g_tbl := tm_2 (List.mem_of_getElem? (i := 39) rfl) rfl
theorem mw_2_41 : (Cond.laysFinal "OneLamp$Shelf" "OneLamp$Shelf" "elements" "[J") ∈ g_tbl := tm_2 (List.mem_of_getElem? (i := 41) rfl) rfl
theorem mw_2_44 : (Cond.fieldLink "OneLamp" 10 "OneLamp" "wall" "LOneLamp$Wall;") ∈ g_tbl := tm_2 (List.mem_of_getElem? (i := 44) rfl) rfl
theorem mw_2_45 : (Cond.fieldLink "OneLamp" 16 "OneLamp" "imageOfWall" "LOneLamp$Wall;") ∈ g_tbl := tm_2 (List.mem_of_getElem? (i := 45) rfl) rfl
theorem mw_2_46 : (Cond.fieldLink "OneLamp" 226 "OneLamp" "imageIsKept" "Z") ∈ g_tbl := tm_2 (List.mem_of_getElem? (i := 46) rfl) rfl
theorem mw_2_47 : (Cond.fieldLink "OneLamp" 22 "OneLamp" "rules" "LOneLamp$Rules;") ∈ g_tbl := tm_2 (List.mem_of_getElem? (i := 47) rfl) rfl
theorem mw_2_48 : (Cond.fieldLink "OneLamp" 29 "OneLamp" "tape" "LOneLamp$Tape;") ∈ g_tbl := tm_2 (List.mem_of_getElem? (i := 48) rfl) rfl
theorem mw_2_49 : (Cond.fieldLink "OneLamp" 36 "OneLamp" "costs" "LOneLamp$Costs;") ∈ g_tbl := tm_2 (List.mem_of_getElem? (i := 49) rfl) rfl
theorem mw_2_50 : (Cond.fieldLink "OneLamp" 43 "OneLamp" "thought" "LOneLamp$Thought;") ∈ g_tbl := tm_2 (List.mem_of_getElem? (i := 50) rfl) rfl
theorem mw_2_51 : (Cond.fieldLink "OneLamp" 50 "OneLamp" "acts" "LOneLamp$Acts;") ∈ g_tbl := tm_2 (List.mem_of_getElem? (i := 51) rfl) rfl
theorem mw_2_52 : (Cond.fieldLink "OneLamp" 56 "OneLamp" "shelves" "[LOneLamp$Shelf;") ∈ g_tbl := tm_2 (List.mem_of_getElem? (i := 52) rfl) rfl
theorem mw_2_53 : (Cond.laysFinal "OneLamp" "OneLamp" "wall" "LOneLamp$Wall;") ∈ g_tbl := tm_2 (List.mem_of_getElem? (i := 53) rfl) rfl
theorem mw_2_55 : (Cond.laysFinal "OneLamp" "OneLamp" "imageOfWall" "LOneLamp$Wall;") ∈ g_tbl := tm_2 (List.mem_of_getElem? (i := 55) rfl) rfl
theorem mw_2_57 : (Cond.lays "OneLamp" "OneLamp" "imageIsKept" "Z") ∈ g_tbl := tm_2 (List.mem_of_getElem? (i := 57) rfl) rfl
theorem mw_2_59 : (Cond.laysFinal "OneLamp" "OneLamp" "rules" "LOneLamp$Rules;") ∈ g_tbl := tm_2 (List.mem_of_getElem? (i := 59) rfl) rfl
theorem mw_2_61 : (Cond.laysFinal "OneLamp" "OneLamp" "tape" "LOneLamp$Tape;") ∈ g_tbl := tm_2 (List.mem_of_getElem? (i := 61) rfl) rfl
theorem mw_2_63 : (Cond.laysFinal "OneLamp" "OneLamp" "costs" "LOneLamp$Costs;") ∈ g_tbl := tm_2 (List.mem_of_getElem? (i := 63) rfl) rfl
theorem mw_2_65 : (Cond.laysFinal "OneLamp" "OneLamp" "thought" "LOneLamp$Thought;") ∈ g_tbl := tm_2 (List.mem_of_getElem? (i := 65) rfl) rfl
theorem mw_2_67 : (Cond.laysFinal "OneLamp" "OneLamp" "acts" "LOneLamp$Acts;") ∈ g_tbl := tm_2 (List.mem_of_getElem? (i := 67) rfl) rfl
theorem mw_2_69 : (Cond.laysFinal "OneLamp" "OneLamp" "shelves" "[LOneLamp$Shelf;") ∈ g_tbl := tm_2 (List.mem_of_getElem? (i := 69) rfl) rfl
theorem mw_2_72 : (Cond.methodLink "OneLampLaw" 13 ⟨"OneLamp", "lamps", "(I)I"⟩) ∈ g_tbl := tm_2 (List.mem_of_getElem? (i := 72) rfl) rfl
theorem mw_2_73 : (Cond.instanceMethod ⟨"OneLamp", "lamps", "(I)I"⟩) ∈ g_tbl := tm_2 (List.mem_of_getElem? (i := 73) rfl) rfl
theorem mw_2_74 : (Cond.selects "OneLamp" ⟨"OneLamp", "lamps", "(I)I"⟩ ⟨"OneLamp", "lamps", "(I)I"⟩) ∈ g_tbl := tm_2 (List.mem_of_getElem? (i := 74) rfl) rfl
theorem mw_2_75 : (Cond.code ⟨"OneLamp", "lamps", "(I)I"⟩ prog_1_method_2_code 3 (Option.some .int)) ∈ g_tbl := tm_2 (List.mem_of_getElem? (i := 75) rfl) rfl
theorem mw_2_76 : (Cond.methodLink "OneLamp" 69 ⟨"OneLamp$Pictures", "empty", "()V"⟩) ∈ g_tbl := tm_2 (List.mem_of_getElem? (i := 76) rfl) rfl
theorem mw_2_77 : (Cond.methodLink "OneLamp" 74 ⟨"OneLamp$Wall", "startAt", "(I)V"⟩) ∈ g_tbl := tm_2 (List.mem_of_getElem? (i := 77) rfl) rfl
theorem mw_2_78 : (Cond.methodLink "OneLampLaw" 18 ⟨"OneLamp", "begin", "(I)I"⟩) ∈ g_tbl := tm_2 (List.mem_of_getElem? (i := 78) rfl) rfl
theorem mw_2_79 : (Cond.instanceMethod ⟨"OneLamp", "begin", "(I)I"⟩) ∈ g_tbl := tm_2 (List.mem_of_getElem? (i := 79) rfl) rfl
theorem mw_2_80 : (Cond.selects "OneLamp" ⟨"OneLamp", "begin", "(I)I"⟩ ⟨"OneLamp", "begin", "(I)I"⟩) ∈ g_tbl := tm_2 (List.mem_of_getElem? (i := 80) rfl) rfl
theorem mw_2_81 : (Cond.code ⟨"OneLamp", "begin", "(I)I"⟩ prog_1_method_3_code 2 (Option.some .int)) ∈ g_tbl := tm_2 (List.mem_of_getElem? (i := 81) rfl) rfl
theorem mw_2_82 : (Cond.methodLink "OneLamp" 78 ⟨"OneLamp$Wall", "hasPicture", "(I)Z"⟩) ∈ g_tbl := tm_2 (List.mem_of_getElem? (i := 82) rfl) rfl
theorem mw_2_83 : (Cond.instanceMethod ⟨"OneLamp$Wall", "hasPicture", "(I)Z"⟩) ∈ g_tbl := tm_2 (List.mem_of_getElem? (i := 83) rfl) rfl
theorem mw_2_84 : (Cond.selects "OneLamp$Wall" ⟨"OneLamp$Wall", "hasPicture", "(I)Z"⟩ ⟨"OneLamp$Wall", "hasPicture", "(I)Z"⟩) ∈ g_tbl := tm_2 (List.mem_of_getElem? (i := 84) rfl) rfl
theorem mw_2_85 : (Cond.code ⟨"OneLamp$Wall", "hasPicture", "(I)Z"⟩ prog_11_method_2_code 2 (Option.some .boolean)) ∈ g_tbl := tm_2 (List.mem_of_getElem? (i := 85) rfl) rfl
theorem mw_2_86 : (Cond.methodLink "OneLampLaw" 22 ⟨"OneLamp", "bar", "(I)I"⟩) ∈ g_tbl := tm_2 (List.mem_of_getElem? (i := 86) rfl) rfl
theorem mw_2_87 : (Cond.instanceMethod ⟨"OneLamp", "bar", "(I)I"⟩) ∈ g_tbl := tm_2 (List.mem_of_getElem? (i := 87) rfl) rfl
theorem mw_2_88 : (Cond.selects "OneLamp" ⟨"OneLamp", "bar", "(I)I"⟩ ⟨"OneLamp", "bar", "(I)I"⟩) ∈ g_tbl := tm_2 (List.mem_of_getElem? (i := 88) rfl) rfl
theorem mw_2_89 : (Cond.code ⟨"OneLamp", "bar", "(I)I"⟩ prog_1_method_4_code 2 (Option.some .int)) ∈ g_tbl := tm_2 (List.mem_of_getElem? (i := 89) rfl) rfl
theorem mw_2_90 : (Cond.methodLink "OneLamp" 82 ⟨"OneLamp$Pictures", "holds", "(I)Z"⟩) ∈ g_tbl := tm_2 (List.mem_of_getElem? (i := 90) rfl) rfl
theorem mw_2_91 : (Cond.instanceMethod ⟨"OneLamp$Pictures", "holds", "(I)Z"⟩) ∈ g_tbl := tm_2 (List.mem_of_getElem? (i := 91) rfl) rfl
theorem mw_2_92 : (Cond.selects "OneLamp$Pictures" ⟨"OneLamp$Pictures", "holds", "(I)Z"⟩ ⟨"OneLamp$Pictures", "holds", "(I)Z"⟩) ∈ g_tbl := tm_2 (List.mem_of_getElem? (i := 92) rfl) rfl
theorem mw_2_93 : (Cond.code ⟨"OneLamp$Pictures", "holds", "(I)Z"⟩ prog_5_method_3_code 2 (Option.some .boolean)) ∈ g_tbl := tm_2 (List.mem_of_getElem? (i := 93) rfl) rfl
theorem mw_2_94 : (Cond.methodLink "OneLamp" 85 ⟨"OneLamp$Pictures", "add", "(I)V"⟩) ∈ g_tbl := tm_2 (List.mem_of_getElem? (i := 94) rfl) rfl
theorem mw_2_95 : (Cond.methodLink "OneLampLaw" 26 ⟨"OneLamp", "bars", "(III)I"⟩) ∈ g_tbl := tm_2 (List.mem_of_getElem? (i := 95) rfl) rfl
theorem mw_2_96 : (Cond.instanceMethod ⟨"OneLamp", "bars", "(III)I"⟩) ∈ g_tbl := tm_2 (List.mem_of_getElem? (i := 96) rfl) rfl
theorem mw_2_97 : (Cond.selects "OneLamp" ⟨"OneLamp", "bars", "(III)I"⟩ ⟨"OneLamp", "bars", "(III)I"⟩) ∈ g_tbl := tm_2 (List.mem_of_getElem? (i := 97) rfl) rfl
theorem mw_2_98 : (Cond.code ⟨"OneLamp", "bars", "(III)I"⟩ prog_1_method_5_code 7 (Option.some .int)) ∈ g_tbl := tm_2 (List.mem_of_getElem? (i := 98) rfl) rfl
theorem mw_2_99 : (Cond.methodLink "OneLamp" 88 ⟨"OneLamp", "isShelf", "(I)Z"⟩) ∈ g_tbl := tm_2 (List.mem_of_getElem? (i := 99) rfl) rfl
theorem mw_2_100 : (Cond.static ⟨"OneLamp", "isShelf", "(I)Z"⟩) ∈ g_tbl := tm_2 (List.mem_of_getElem? (i := 100) rfl) rfl
theorem mw_2_101 : (Cond.code ⟨"OneLamp", "isShelf", "(I)Z"⟩ prog_1_method_37_code 1 (Option.some .boolean)) ∈ g_tbl := tm_2 (List.mem_of_getElem? (i := 101) rfl) rfl
theorem mw_2_102 : (Cond.methodLink "OneLamp" 91 ⟨"OneLamp$Shelf", "isEmpty", "()Z"⟩) ∈ g_tbl := tm_2 (List.mem_of_getElem? (i := 102) rfl) rfl
theorem mw_2_103 : (Cond.instanceMethod ⟨"OneLamp$Shelf", "isEmpty", "()Z"⟩) ∈ g_tbl := tm_2 (List.mem_of_getElem? (i := 103) rfl) rfl
theorem mw_2_104 : (Cond.selects "OneLamp$Shelf" ⟨"OneLamp$Shelf", "isEmpty", "()Z"⟩ ⟨"OneLamp$Shelf", "isEmpty", "()Z"⟩) ∈ g_tbl := tm_2 (List.mem_of_getElem? (i := 104) rfl) rfl
theorem mw_2_105 : (Cond.code ⟨"OneLamp$Shelf", "isEmpty", "()Z"⟩ prog_7_method_2_code 1 (Option.some .boolean)) ∈ g_tbl := tm_2 (List.mem_of_getElem? (i := 105) rfl) rfl
theorem mw_2_106 : (Cond.methodLink "OneLamp" 95 ⟨"OneLamp$Shelf", "isRowOf", "(I)Z"⟩) ∈ g_tbl := tm_2 (List.mem_of_getElem? (i := 106) rfl) rfl
theorem mw_2_107 : (Cond.instanceMethod ⟨"OneLamp$Shelf", "isRowOf", "(I)Z"⟩) ∈ g_tbl := tm_2 (List.mem_of_getElem? (i := 107) rfl) rfl
theorem mw_2_108 : (Cond.selects "OneLamp$Shelf" ⟨"OneLamp$Shelf", "isRowOf", "(I)Z"⟩ ⟨"OneLamp$Shelf", "isRowOf", "(I)Z"⟩) ∈ g_tbl := tm_2 (List.mem_of_getElem? (i := 108) rfl) rfl
theorem mw_2_109 : (Cond.code ⟨"OneLamp$Shelf", "isRowOf", "(I)Z"⟩ prog_7_method_5_code 2 (Option.some .boolean)) ∈ g_tbl := tm_2 (List.mem_of_getElem? (i := 109) rfl) rfl
theorem mw_2_110 : (Cond.methodLink "OneLamp" 98 ⟨"OneLamp$Shelf", "hasPlace", "(I)Z"⟩) ∈ g_tbl := tm_2 (List.mem_of_getElem? (i := 110) rfl) rfl
theorem mw_2_111 : (Cond.instanceMethod ⟨"OneLamp$Shelf", "hasPlace", "(I)Z"⟩) ∈ g_tbl := tm_2 (List.mem_of_getElem? (i := 111) rfl) rfl
theorem mw_2_112 : (Cond.selects "OneLamp$Shelf" ⟨"OneLamp$Shelf", "hasPlace", "(I)Z"⟩ ⟨"OneLamp$Shelf", "hasPlace", "(I)Z"⟩) ∈ g_tbl := tm_2 (List.mem_of_getElem? (i := 112) rfl) rfl
theorem mw_2_113 : (Cond.code ⟨"OneLamp$Shelf", "hasPlace", "(I)Z"⟩ prog_7_method_9_code 2 (Option.some .boolean)) ∈ g_tbl := tm_2 (List.mem_of_getElem? (i := 113) rfl) rfl
theorem mw_2_114 : (Cond.methodLink "OneLamp" 101 ⟨"OneLamp$Shelf", "elementAt", "(I)J"⟩) ∈ g_tbl := tm_2 (List.mem_of_getElem? (i := 114) rfl) rfl
theorem mw_2_115 : (Cond.instanceMethod ⟨"OneLamp$Shelf", "elementAt", "(I)J"⟩) ∈ g_tbl := tm_2 (List.mem_of_getElem? (i := 115) rfl) rfl
theorem mw_2_116 : (Cond.selects "OneLamp$Shelf" ⟨"OneLamp$Shelf", "elementAt", "(I)J"⟩ ⟨"OneLamp$Shelf", "elementAt", "(I)J"⟩) ∈ g_tbl := tm_2 (List.mem_of_getElem? (i := 116) rfl) rfl
theorem mw_2_117 : (Cond.code ⟨"OneLamp$Shelf", "elementAt", "(I)J"⟩ prog_7_method_11_code 2 (Option.some .long)) ∈ g_tbl := tm_2 (List.mem_of_getElem? (i := 117) rfl) rfl
theorem mw_2_118 : (Cond.methodLink "OneLamp$Shelf" 34 ⟨"OneLamp$Shelf", "hasPlace", "(I)Z"⟩) ∈ g_tbl := tm_2 (List.mem_of_getElem? (i := 118) rfl) rfl
theorem mw_2_119 : (Cond.methodLink "OneLampLaw" 31 ⟨"OneLamp", "feed", "(I)I"⟩) ∈ g_tbl := tm_2 (List.mem_of_getElem? (i := 119) rfl) rfl
theorem mw_2_120 : (Cond.instanceMethod ⟨"OneLamp", "feed", "(I)I"⟩) ∈ g_tbl := tm_2 (List.mem_of_getElem? (i := 120) rfl) rfl
theorem mw_2_121 : (Cond.selects "OneLamp" ⟨"OneLamp", "feed", "(I)I"⟩ ⟨"OneLamp", "feed", "(I)I"⟩) ∈ g_tbl := tm_2 (List.mem_of_getElem? (i := 121) rfl) rfl
theorem mw_2_122 : (Cond.code ⟨"OneLamp", "feed", "(I)I"⟩ prog_1_method_6_code 2 (Option.some .int)) ∈ g_tbl := tm_2 (List.mem_of_getElem? (i := 122) rfl) rfl
theorem mw_2_123 : (Cond.methodLink "OneLamp" 105 ⟨"OneLamp$Tape", "add", "(I)Z"⟩) ∈ g_tbl := tm_2 (List.mem_of_getElem? (i := 123) rfl) rfl
theorem mw_2_124 : (Cond.instanceMethod ⟨"OneLamp$Tape", "add", "(I)Z"⟩) ∈ g_tbl := tm_2 (List.mem_of_getElem? (i := 124) rfl) rfl
theorem mw_2_125 : (Cond.selects "OneLamp$Tape" ⟨"OneLamp$Tape", "add", "(I)Z"⟩ ⟨"OneLamp$Tape", "add", "(I)Z"⟩) ∈ g_tbl := tm_2 (List.mem_of_getElem? (i := 125) rfl) rfl
theorem mw_2_126 : (Cond.code ⟨"OneLamp$Tape", "add", "(I)Z"⟩ prog_9_method_2_code 2 (Option.some .boolean)) ∈ g_tbl := tm_2 (List.mem_of_getElem? (i := 126) rfl) rfl
theorem mw_2_127 : (Cond.methodLink "OneLampLaw" 35 ⟨"OneLamp", "law", "()I"⟩) ∈ g_tbl := tm_2 (List.mem_of_getElem? (i := 127) rfl) rfl
theorem mw_2_128 : (Cond.instanceMethod ⟨"OneLamp", "law", "()I"⟩) ∈ g_tbl := tm_2 (List.mem_of_getElem? (i := 128) rfl) rfl
theorem mw_2_129 : (Cond.selects "OneLamp" ⟨"OneLamp", "law", "()I"⟩ ⟨"OneLamp", "law", "()I"⟩) ∈ g_tbl := tm_2 (List.mem_of_getElem? (i := 129) rfl) rfl
theorem mw_2_130 : (Cond.code ⟨"OneLamp", "law", "()I"⟩ prog_1_method_7_code 2 (Option.some .int)) ∈ g_tbl := tm_2 (List.mem_of_getElem? (i := 130) rfl) rfl
theorem mw_2_131 : (Cond.methodLink "OneLamp" 110 ⟨"OneLamp$Tape", "read", "()I"⟩) ∈ g_tbl := tm_2 (List.mem_of_getElem? (i := 131) rfl) rfl
theorem mw_2_132 : (Cond.instanceMethod ⟨"OneLamp$Tape", "read", "()I"⟩) ∈ g_tbl := tm_2 (List.mem_of_getElem? (i := 132) rfl) rfl
theorem mw_2_133 : (Cond.selects "OneLamp$Tape" ⟨"OneLamp$Tape", "read", "()I"⟩ ⟨"OneLamp$Tape", "read", "()I"⟩) ∈ g_tbl := tm_2 (List.mem_of_getElem? (i := 133) rfl) rfl
theorem mw_2_134 : (Cond.code ⟨"OneLamp$Tape", "read", "()I"⟩ prog_9_method_3_code 2 (Option.some .int)) ∈ g_tbl := tm_2 (List.mem_of_getElem? (i := 134) rfl) rfl
theorem mw_2_135 : (Cond.methodLink "OneLamp$Tape" 28 ⟨"OneLamp$Tape", "readLine", "()Z"⟩) ∈ g_tbl := tm_2 (List.mem_of_getElem? (i := 135) rfl) rfl
theorem mw_2_137 : (Cond.instanceMethod ⟨"OneLamp$Tape", "readLine", "()Z"⟩) ∈ g_tbl := tm_2 (List.mem_of_getElem? (i := 137) rfl) rfl
theorem mw_2_138 : (Cond.code ⟨"OneLamp$Tape", "readLine", "()Z"⟩ prog_9_method_4_code 1 (Option.some .boolean)) ∈ g_tbl := tm_2 (List.mem_of_getElem? (i := 138) rfl) rfl
theorem mw_2_139 : (Cond.methodLink "OneLamp$Tape" 36 ⟨"OneLamp$Tape", "readLevel", "(LOneLamp$Tape;II)Z"⟩) ∈ g_tbl := tm_2 (List.mem_of_getElem? (i := 139) rfl) rfl
theorem mw_2_140 : (Cond.static ⟨"OneLamp$Tape", "readLevel", "(LOneLamp$Tape;II)Z"⟩) ∈ g_tbl := tm_2 (List.mem_of_getElem? (i := 140) rfl) rfl
theorem mw_2_141 : (Cond.code ⟨"OneLamp$Tape", "readLevel", "(LOneLamp$Tape;II)Z"⟩ prog_9_method_8_code 6 (Option.some .boolean)) ∈ g_tbl := tm_2 (List.mem_of_getElem? (i := 141) rfl) rfl
theorem mw_2_142 : (Cond.methodLink "OneLamp$Tape" 46 ⟨"OneLamp$Tape", "readOperand", "(LOneLamp$Tape;I)Z"⟩) ∈ g_tbl := tm_2 (List.mem_of_getElem? (i := 142) rfl) rfl
theorem mw_2_143 : (Cond.static ⟨"OneLamp$Tape", "readOperand", "(LOneLamp$Tape;I)Z"⟩) ∈ g_tbl := tm_2 (List.mem_of_getElem? (i := 143) rfl) rfl
theorem mw_2_144 : (Cond.code ⟨"OneLamp$Tape", "readOperand", "(LOneLamp$Tape;I)Z"⟩ prog_9_method_9_code 3 (Option.some .boolean)) ∈ g_tbl := tm_2 (List.mem_of_getElem? (i := 144) rfl) rfl
theorem mw_2_145 : (Cond.methodLink "OneLamp$Tape" 32 ⟨"OneLamp$Tape", "letter", "()I"⟩) ∈ g_tbl := tm_2 (List.mem_of_getElem? (i := 145) rfl) rfl
theorem mw_2_147 : (Cond.instanceMethod ⟨"OneLamp$Tape", "letter", "()I"⟩) ∈ g_tbl := tm_2 (List.mem_of_getElem? (i := 147) rfl) rfl
theorem mw_2_148 : (Cond.code ⟨"OneLamp$Tape", "letter", "()I"⟩ prog_9_method_5_code 1 (Option.some .int)) ∈ g_tbl := tm_2 (List.mem_of_getElem? (i := 148) rfl) rfl
theorem mw_2_149 : (Cond.methodLink "OneLamp$Tape" 54 ⟨"OneLamp$Tape", "isDigit", "(I)Z"⟩) ∈ g_tbl := tm_2 (List.mem_of_getElem? (i := 149) rfl) rfl
theorem mw_2_150 : (Cond.static ⟨"OneLamp$Tape", "isDigit", "(I)Z"⟩) ∈ g_tbl := tm_2 (List.mem_of_getElem? (i := 150) rfl) rfl
theorem mw_2_151 : (Cond.code ⟨"OneLamp$Tape", "isDigit", "(I)Z"⟩ prog_9_method_11_code 1 (Option.some .boolean)) ∈ g_tbl := tm_2 (List.mem_of_getElem? (i := 151) rfl) rfl
theorem mw_2_152 : (Cond.methodLink "OneLamp$Tape" 58 ⟨"OneLamp$Tape", "readNumber", "()V"⟩) ∈ g_tbl := tm_2 (List.mem_of_getElem? (i := 152) rfl) rfl
theorem mw_2_154 : (Cond.instanceMethod ⟨"OneLamp$Tape", "readNumber", "()V"⟩) ∈ g_tbl := tm_2 (List.mem_of_getElem? (i := 154) rfl) rfl
theorem mw_2_155 : (Cond.code ⟨"OneLamp$Tape", "readNumber", "()V"⟩ prog_9_method_10_code 3 (Option.none : Option Jvm.ClassFile.FieldType)) ∈ g_tbl := tm_2 (List.mem_of_getElem? (i := 155) rfl) rfl
theorem mw_2_156 : (Cond.methodLink "OneLamp$Tape" 42 ⟨"OneLamp$Tape", "write", "(I)V"⟩) ∈ g_tbl := tm_2 (List.mem_of_getElem? (i := 156) rfl) rfl
theorem mw_2_158 : (Cond.instanceMethod ⟨"OneLamp$Tape", "write", "(I)V"⟩) ∈ g_tbl := tm_2 (List.mem_of_getElem? (i := 158) rfl) rfl
theorem mw_2_159 : (Cond.code ⟨"OneLamp$Tape", "write", "(I)V"⟩ prog_9_method_6_code 2 (Option.none : Option Jvm.ClassFile.FieldType)) ∈ g_tbl := tm_2 (List.mem_of_getElem? (i := 159) rfl) rfl
theorem mw_2_160 : (Cond.methodLink "OneLamp$Tape" 50 ⟨"OneLamp$Tape", "levelOf", "(I)I"⟩) ∈ g_tbl := tm_2 (List.mem_of_getElem? (i := 160) rfl) rfl
theorem mw_2_161 : (Cond.static ⟨"OneLamp$Tape", "levelOf", "(I)I"⟩) ∈ g_tbl := tm_2 (List.mem_of_getElem? (i := 161) rfl) rfl
theorem mw_2_162 : (Cond.code ⟨"OneLamp$Tape", "levelOf", "(I)I"⟩ prog_9_method_7_code 1 (Option.some .int)) ∈ g_tbl := tm_2 (List.mem_of_getElem? (i := 162) rfl) rfl
theorem mw_2_163 : (Cond.methodLink "OneLamp" 121 ⟨"OneLamp$Rules", "takeLaw", "([II)V"⟩) ∈ g_tbl := tm_2 (List.mem_of_getElem? (i := 163) rfl) rfl
theorem mw_2_164 : (Cond.instanceMethod ⟨"OneLamp$Rules", "takeLaw", "([II)V"⟩) ∈ g_tbl := tm_2 (List.mem_of_getElem? (i := 164) rfl) rfl
theorem mw_2_165 : (Cond.selects "OneLamp$Rules" ⟨"OneLamp$Rules", "takeLaw", "([II)V"⟩ ⟨"OneLamp$Rules", "takeLaw", "([II)V"⟩) ∈ g_tbl := tm_2 (List.mem_of_getElem? (i := 165) rfl) rfl
theorem mw_2_166 : (Cond.code ⟨"OneLamp$Rules", "takeLaw", "([II)V"⟩ prog_6_method_2_code 3 (Option.none : Option Jvm.ClassFile.FieldType)) ∈ g_tbl := tm_2 (List.mem_of_getElem? (i := 166) rfl) rfl
theorem mw_2_167 : (Cond.methodLink "OneLamp$Rules" 28 ⟨"OneLamp$Law", "become", "([II)V"⟩) ∈ g_tbl := tm_2 (List.mem_of_getElem? (i := 167) rfl) rfl
theorem mw_2_168 : (Cond.instanceMethod ⟨"OneLamp$Law", "become", "([II)V"⟩) ∈ g_tbl := tm_2 (List.mem_of_getElem? (i := 168) rfl) rfl
theorem mw_2_169 : (Cond.selects "OneLamp$Law" ⟨"OneLamp$Law", "become", "([II)V"⟩ ⟨"OneLamp$Law", "become", "([II)V"⟩) ∈ g_tbl := tm_2 (List.mem_of_getElem? (i := 169) rfl) rfl
theorem mw_2_170 : (Cond.code ⟨"OneLamp$Law", "become", "([II)V"⟩ prog_4_method_2_code 3 (Option.none : Option Jvm.ClassFile.FieldType)) ∈ g_tbl := tm_2 (List.mem_of_getElem? (i := 170) rfl) rfl
theorem mw_2_171 : (Cond.methodLink "OneLamp$Law" 18 ⟨"java/lang/System", "arraycopy", "(Ljava/lang/Object;ILjava/lang/Object;II)V"⟩) ∈ g_tbl := tm_2 (List.mem_of_getElem? (i := 171) rfl) rfl
theorem mw_2_172 : (Cond.static ⟨"java/lang/System", "arraycopy", "(Ljava/lang/Object;ILjava/lang/Object;II)V"⟩) ∈ g_tbl := tm_2 (List.mem_of_getElem? (i := 172) rfl) rfl
theorem mw_2_173 : (Cond.native ⟨"java/lang/System", "arraycopy", "(Ljava/lang/Object;ILjava/lang/Object;II)V"⟩) ∈ g_tbl := tm_2 (List.mem_of_getElem? (i := 173) rfl) rfl
theorem mw_2_174 : (Cond.methodLink "OneLamp$Rules" 32 ⟨"OneLamp$Pictures", "empty", "()V"⟩) ∈ g_tbl := tm_2 (List.mem_of_getElem? (i := 174) rfl) rfl
theorem mw_2_175 : (Cond.methodLink "OneLampLaw" 40 ⟨"OneLamp", "set", "(II)I"⟩) ∈ g_tbl := tm_2 (List.mem_of_getElem? (i := 175) rfl) rfl
theorem mw_2_176 : (Cond.instanceMethod ⟨"OneLamp", "set", "(II)I"⟩) ∈ g_tbl := tm_2 (List.mem_of_getElem? (i := 176) rfl) rfl
theorem mw_2_177 : (Cond.selects "OneLamp" ⟨"OneLamp", "set", "(II)I"⟩ ⟨"OneLamp", "set", "(II)I"⟩) ∈ g_tbl := tm_2 (List.mem_of_getElem? (i := 177) rfl) rfl
theorem mw_2_178 : (Cond.code ⟨"OneLamp", "set", "(II)I"⟩ prog_1_method_8_code 4 (Option.some .int)) ∈ g_tbl := tm_2 (List.mem_of_getElem? (i := 178) rfl) rfl
theorem mw_2_179 : (Cond.methodLink "OneLampLaw" 45 ⟨"OneLamp", "cost", "(II)I"⟩) ∈ g_tbl := tm_2 (List.mem_of_getElem? (i := 179) rfl) rfl
theorem mw_2_180 : (Cond.instanceMethod ⟨"OneLamp", "cost", "(II)I"⟩) ∈ g_tbl := tm_2 (List.mem_of_getElem? (i := 180) rfl) rfl
theorem mw_2_181 : (Cond.selects "OneLamp" ⟨"OneLamp", "cost", "(II)I"⟩ ⟨"OneLamp", "cost", "(II)I"⟩) ∈ g_tbl := tm_2 (List.mem_of_getElem? (i := 181) rfl) rfl
theorem mw_2_182 : (Cond.code ⟨"OneLamp", "cost", "(II)I"⟩ prog_1_method_9_code 4 (Option.some .int)) ∈ g_tbl := tm_2 (List.mem_of_getElem? (i := 182) rfl) rfl
theorem mw_2_183 : (Cond.methodLink "OneLamp" 131 ⟨"OneLamp$Costs", "of", "(I)I"⟩) ∈ g_tbl := tm_2 (List.mem_of_getElem? (i := 183) rfl) rfl
theorem mw_2_184 : (Cond.instanceMethod ⟨"OneLamp$Costs", "of", "(I)I"⟩) ∈ g_tbl := tm_2 (List.mem_of_getElem? (i := 184) rfl) rfl
theorem mw_2_185 : (Cond.selects "OneLamp$Costs" ⟨"OneLamp$Costs", "of", "(I)I"⟩ ⟨"OneLamp$Costs", "of", "(I)I"⟩) ∈ g_tbl := tm_2 (List.mem_of_getElem? (i := 185) rfl) rfl
theorem mw_2_186 : (Cond.code ⟨"OneLamp$Costs", "of", "(I)I"⟩ prog_3_method_2_code 2 (Option.some .int)) ∈ g_tbl := tm_2 (List.mem_of_getElem? (i := 186) rfl) rfl
theorem mw_2_187 : (Cond.methodLink "OneLamp" 135 ⟨"OneLamp$Costs", "tell", "(II)V"⟩) ∈ g_tbl := tm_2 (List.mem_of_getElem? (i := 187) rfl) rfl
theorem mw_2_188 : (Cond.instanceMethod ⟨"OneLamp$Costs", "tell", "(II)V"⟩) ∈ g_tbl := tm_2 (List.mem_of_getElem? (i := 188) rfl) rfl
theorem mw_2_189 : (Cond.selects "OneLamp$Costs" ⟨"OneLamp$Costs", "tell", "(II)V"⟩ ⟨"OneLamp$Costs", "tell", "(II)V"⟩) ∈ g_tbl := tm_2 (List.mem_of_getElem? (i := 189) rfl) rfl
theorem mw_2_190 : (Cond.code ⟨"OneLamp$Costs", "tell", "(II)V"⟩ prog_3_method_4_code 4 (Option.none : Option Jvm.ClassFile.FieldType)) ∈ g_tbl := tm_2 (List.mem_of_getElem? (i := 190) rfl) rfl
theorem mw_2_191 : (Cond.methodLink "OneLamp$Costs" 33 ⟨"OneLamp$Costs", "of", "(I)I"⟩) ∈ g_tbl := tm_2 (List.mem_of_getElem? (i := 191) rfl) rfl
theorem mw_2_192 : (Cond.methodLink "OneLamp$Costs" 44 ⟨"OneLamp$Costs", "dropOldest", "()V"⟩) ∈ g_tbl := tm_2 (List.mem_of_getElem? (i := 192) rfl) rfl
theorem mw_2_194 : (Cond.instanceMethod ⟨"OneLamp$Costs", "dropOldest", "()V"⟩) ∈ g_tbl := tm_2 (List.mem_of_getElem? (i := 194) rfl) rfl
theorem mw_2_195 : (Cond.code ⟨"OneLamp$Costs", "dropOldest", "()V"⟩ prog_3_method_5_code 1 (Option.none : Option Jvm.ClassFile.FieldType)) ∈ g_tbl := tm_2 (List.mem_of_getElem? (i := 195) rfl) rfl
theorem mw_2_196 : (Cond.methodLink "OneLamp$Costs" 51 ⟨"java/lang/System", "arraycopy", "(Ljava/lang/Object;ILjava/lang/Object;II)V"⟩) ∈ g_tbl := tm_2 (List.mem_of_getElem? (i := 196) rfl) rfl
theorem mw_2_197 : (Cond.methodLink "OneLamp$Costs" 47 ⟨"OneLamp$Costs", "price", "(II)V"⟩) ∈ g_tbl := tm_2 (List.mem_of_getElem? (i := 197) rfl) rfl
theorem mw_2_199 : (Cond.instanceMethod ⟨"OneLamp$Costs", "price", "(II)V"⟩) ∈ g_tbl := tm_2 (List.mem_of_getElem? (i := 199) rfl) rfl
theorem mw_2_200 : (Cond.code ⟨"OneLamp$Costs", "price", "(II)V"⟩ prog_3_method_3_code 3 (Option.none : Option Jvm.ClassFile.FieldType)) ∈ g_tbl := tm_2 (List.mem_of_getElem? (i := 200) rfl) rfl
theorem mw_2_201 : (Cond.methodLink "OneLampLaw" 49 ⟨"OneLamp", "now", "(I)I"⟩) ∈ g_tbl := tm_2 (List.mem_of_getElem? (i := 201) rfl) rfl
theorem mw_2_202 : (Cond.instanceMethod ⟨"OneLamp", "now", "(I)I"⟩) ∈ g_tbl := tm_2 (List.mem_of_getElem? (i := 202) rfl) rfl
theorem mw_2_203 : (Cond.selects "OneLamp" ⟨"OneLamp", "now", "(I)I"⟩ ⟨"OneLamp", "now", "(I)I"⟩) ∈ g_tbl := tm_2 (List.mem_of_getElem? (i := 203) rfl) rfl
theorem mw_2_204 : (Cond.code ⟨"OneLamp", "now", "(I)I"⟩ prog_1_method_10_code 2 (Option.some .int)) ∈ g_tbl := tm_2 (List.mem_of_getElem? (i := 204) rfl) rfl
theorem mw_2_205 : (Cond.methodLink "OneLamp" 148 ⟨"OneLamp$Pictures", "size", "()I"⟩) ∈ g_tbl := tm_2 (List.mem_of_getElem? (i := 205) rfl) rfl
theorem mw_2_206 : (Cond.instanceMethod ⟨"OneLamp$Pictures", "size", "()I"⟩) ∈ g_tbl := tm_2 (List.mem_of_getElem? (i := 206) rfl) rfl
theorem mw_2_207 : (Cond.selects "OneLamp$Pictures" ⟨"OneLamp$Pictures", "size", "()I"⟩ ⟨"OneLamp$Pictures", "size", "()I"⟩) ∈ g_tbl := tm_2 (List.mem_of_getElem? (i := 207) rfl) rfl
theorem mw_2_208 : (Cond.code ⟨"OneLamp$Pictures", "size", "()I"⟩ prog_5_method_8_code 7 (Option.some .int)) ∈ g_tbl := tm_2 (List.mem_of_getElem? (i := 208) rfl) rfl
theorem mw_2_209 : (Cond.methodLink "OneLamp$Pictures" 33 ⟨"java/lang/Long", "bitCount", "(J)I"⟩) ∈ g_tbl := tm_2 (List.mem_of_getElem? (i := 209) rfl) rfl
theorem mw_2_210 : (Cond.static ⟨"java/lang/Long", "bitCount", "(J)I"⟩) ∈ g_tbl := tm_2 (List.mem_of_getElem? (i := 210) rfl) rfl
theorem mw_2_211 : (Cond.code ⟨"java/lang/Long", "bitCount", "(J)I"⟩ prog_15_method_50_code 2 (Option.some .int)) ∈ g_tbl := tm_2 (List.mem_of_getElem? (i := 211) rfl) rfl
theorem mw_2_212 : (Cond.constantLong "java/lang/Long" 314 6148914691236517205) ∈ g_tbl := tm_2 (List.mem_of_getElem? (i := 212) rfl) rfl
theorem mw_2_213 : (Cond.constantLong "java/lang/Long" 316 3689348814741910323) ∈ g_tbl := tm_2 (List.mem_of_getElem? (i := 213) rfl) rfl
theorem mw_2_214 : (Cond.constantLong "java/lang/Long" 318 1085102592571150095) ∈ g_tbl := tm_2 (List.mem_of_getElem? (i := 214) rfl) rfl
theorem mw_2_215 : (Cond.methodLink "OneLamp" 154 ⟨"OneLamp$Costs", "leastFor", "(I)I"⟩) ∈ g_tbl := tm_2 (List.mem_of_getElem? (i := 215) rfl) rfl
theorem mw_2_216 : (Cond.instanceMethod ⟨"OneLamp$Costs", "leastFor", "(I)I"⟩) ∈ g_tbl := tm_2 (List.mem_of_getElem? (i := 216) rfl) rfl
theorem mw_2_217 : (Cond.selects "OneLamp$Costs" ⟨"OneLamp$Costs", "leastFor", "(I)I"⟩ ⟨"OneLamp$Costs", "leastFor", "(I)I"⟩) ∈ g_tbl := tm_2 (List.mem_of_getElem? (i := 217) rfl) rfl
theorem mw_2_218 : (Cond.code ⟨"OneLamp$Costs", "leastFor", "(I)I"⟩ prog_3_method_8_code 4 (Option.some .int)) ∈ g_tbl := tm_2 (List.mem_of_getElem? (i := 218) rfl) rfl
theorem mw_2_219 : (Cond.methodLink "OneLampLaw" 53 ⟨"OneLamp", "picture", "(II)I"⟩) ∈ g_tbl := tm_2 (List.mem_of_getElem? (i := 219) rfl) rfl
theorem mw_2_220 : (Cond.instanceMethod ⟨"OneLamp", "picture", "(II)I"⟩) ∈ g_tbl := tm_2 (List.mem_of_getElem? (i := 220) rfl) rfl
theorem mw_2_221 : (Cond.selects "OneLamp" ⟨"OneLamp", "picture", "(II)I"⟩ ⟨"OneLamp", "picture", "(II)I"⟩) ∈ g_tbl := tm_2 (List.mem_of_getElem? (i := 221) rfl) rfl
theorem mw_2_222 : (Cond.code ⟨"OneLamp", "picture", "(II)I"⟩ prog_1_method_11_code 4 (Option.some .int)) ∈ g_tbl := tm_2 (List.mem_of_getElem? (i := 222) rfl) rfl
theorem mw_2_223 : (Cond.methodLink "OneLamp" 157 ⟨"OneLamp$Rules", "isBarred", "(LOneLamp$Wall;I)Z"⟩) ∈ g_tbl := tm_2 (List.mem_of_getElem? (i := 223) rfl) rfl
theorem mw_2_224 : (Cond.instanceMethod ⟨"OneLamp$Rules", "isBarred", "(LOneLamp$Wall;I)Z"⟩) ∈ g_tbl := tm_2 (List.mem_of_getElem? (i := 224) rfl) rfl
theorem mw_2_225 : (Cond.selects "OneLamp$Rules" ⟨"OneLamp$Rules", "isBarred", "(LOneLamp$Wall;I)Z"⟩ ⟨"OneLamp$Rules", "isBarred", "(LOneLamp$Wall;I)Z"⟩) ∈ g_tbl := tm_2 (List.mem_of_getElem? (i := 225) rfl) rfl
theorem mw_2_226 : (Cond.code ⟨"OneLamp$Rules", "isBarred", "(LOneLamp$Wall;I)Z"⟩ prog_6_method_3_code 3 (Option.some .boolean)) ∈ g_tbl := tm_2 (List.mem_of_getElem? (i := 226) rfl) rfl
theorem mw_2_227 : (Cond.methodLink "OneLamp$Rules" 44 ⟨"OneLamp$Pictures", "holds", "(I)Z"⟩) ∈ g_tbl := tm_2 (List.mem_of_getElem? (i := 227) rfl) rfl
theorem mw_2_228 : (Cond.methodLink "OneLamp$Rules" 48 ⟨"OneLamp$Pictures", "add", "(I)V"⟩) ∈ g_tbl := tm_2 (List.mem_of_getElem? (i := 228) rfl) rfl
theorem mw_2_229 : (Cond.methodLink "OneLamp$Rules" 52 ⟨"OneLamp$Pictures", "remove", "(I)V"⟩) ∈ g_tbl := tm_2 (List.mem_of_getElem? (i := 229) rfl) rfl
theorem mw_2_230 : (Cond.instanceMethod ⟨"OneLamp$Pictures", "remove", "(I)V"⟩) ∈ g_tbl := tm_2 (List.mem_of_getElem? (i := 230) rfl) rfl
theorem mw_2_231 : (Cond.selects "OneLamp$Pictures" ⟨"OneLamp$Pictures", "remove", "(I)V"⟩ ⟨"OneLamp$Pictures", "remove", "(I)V"⟩) ∈ g_tbl := tm_2 (List.mem_of_getElem? (i := 231) rfl) rfl
theorem mw_2_232 : (Cond.code ⟨"OneLamp$Pictures", "remove", "(I)V"⟩ prog_5_method_5_code 2 (Option.none : Option Jvm.ClassFile.FieldType)) ∈ g_tbl := tm_2 (List.mem_of_getElem? (i := 232) rfl) rfl
theorem mw_2_233 : (Cond.constantLong "OneLamp$Pictures" 19 (-1)) ∈ g_tbl := tm_2 (List.mem_of_getElem? (i := 233) rfl) rfl
theorem mw_2_234 : (Cond.methodLink "OneLamp$Rules" 55 ⟨"OneLamp$Law", "valueOf", "(II)I"⟩) ∈ g_tbl := tm_2 (List.mem_of_getElem? (i := 234) rfl) rfl
theorem mw_2_235 : (Cond.instanceMethod ⟨"OneLamp$Law", "valueOf", "(II)I"⟩) ∈ g_tbl := tm_2 (List.mem_of_getElem? (i := 235) rfl) rfl
theorem mw_2_236 : (Cond.selects "OneLamp$Law" ⟨"OneLamp$Law", "valueOf", "(II)I"⟩ ⟨"OneLamp$Law", "valueOf", "(II)I"⟩) ∈ g_tbl := tm_2 (List.mem_of_getElem? (i := 236) rfl) rfl
theorem mw_2_237 : (Cond.code ⟨"OneLamp$Law", "valueOf", "(II)I"⟩ prog_4_method_3_code 8 (Option.some .int)) ∈ g_tbl := tm_2 (List.mem_of_getElem? (i := 237) rfl) rfl
theorem mw_2_238 : (Cond.methodLink "OneLamp$Law" 33 ⟨"OneLamp$Law", "pop", "()I"⟩) ∈ g_tbl := tm_2 (List.mem_of_getElem? (i := 238) rfl) rfl
theorem mw_3_0 : (Cond.instanceMethod ⟨"OneLamp$Law", "pop", "()I"⟩) ∈ g_tbl := tm_3 (List.mem_of_getElem? (i := 0) rfl) rfl
theorem mw_3_1 : (Cond.code ⟨"OneLamp$Law", "pop", "()I"⟩ prog_4_method_8_code 1 (Option.some .int)) ∈ g_tbl := tm_3 (List.mem_of_getElem? (i := 1) rfl) rfl
theorem mw_3_2 : (Cond.methodLink "OneLamp$Law" 37 ⟨"OneLamp$Sign", "takesOperands", "(I)Z"⟩) ∈ g_tbl := tm_3 (List.mem_of_getElem? (i := 2) rfl) rfl
theorem mw_3_3 : (Cond.static ⟨"OneLamp$Sign", "takesOperands", "(I)Z"⟩) ∈ g_tbl := tm_3 (List.mem_of_getElem? (i := 3) rfl) rfl
theorem mw_3_4 : (Cond.code ⟨"OneLamp$Sign", "takesOperands", "(I)Z"⟩ prog_8_method_2_code 1 (Option.some .boolean)) ∈ g_tbl := tm_3 (List.mem_of_getElem? (i := 4) rfl) rfl
theorem mw_3_5 : (Cond.methodLink "OneLamp$Sign" 9 ⟨"OneLamp$Sign", "joins", "(I)Z"⟩) ∈ g_tbl := tm_3 (List.mem_of_getElem? (i := 5) rfl) rfl
theorem mw_3_6 : (Cond.static ⟨"OneLamp$Sign", "joins", "(I)Z"⟩) ∈ g_tbl := tm_3 (List.mem_of_getElem? (i := 6) rfl) rfl
theorem mw_3_7 : (Cond.code ⟨"OneLamp$Sign", "joins", "(I)Z"⟩ prog_8_method_3_code 1 (Option.some .boolean)) ∈ g_tbl := tm_3 (List.mem_of_getElem? (i := 7) rfl) rfl
theorem mw_3_8 : (Cond.methodLink "OneLamp$Law" 41 ⟨"OneLamp$Sign", "joins", "(I)Z"⟩) ∈ g_tbl := tm_3 (List.mem_of_getElem? (i := 8) rfl) rfl
theorem mw_3_9 : (Cond.methodLink "OneLamp$Law" 44 ⟨"OneLamp$Law", "worked", "(III)I"⟩) ∈ g_tbl := tm_3 (List.mem_of_getElem? (i := 9) rfl) rfl
theorem mw_3_10 : (Cond.static ⟨"OneLamp$Law", "worked", "(III)I"⟩) ∈ g_tbl := tm_3 (List.mem_of_getElem? (i := 10) rfl) rfl
theorem mw_3_11 : (Cond.code ⟨"OneLamp$Law", "worked", "(III)I"⟩ prog_4_method_5_code 3 (Option.some .int)) ∈ g_tbl := tm_3 (List.mem_of_getElem? (i := 11) rfl) rfl
theorem mw_3_12 : (Cond.methodLink "OneLamp$Law" 48 ⟨"OneLamp$Law", "operand", "(III)I"⟩) ∈ g_tbl := tm_3 (List.mem_of_getElem? (i := 12) rfl) rfl
theorem mw_3_13 : (Cond.static ⟨"OneLamp$Law", "operand", "(III)I"⟩) ∈ g_tbl := tm_3 (List.mem_of_getElem? (i := 13) rfl) rfl
theorem mw_3_14 : (Cond.code ⟨"OneLamp$Law", "operand", "(III)I"⟩ prog_4_method_4_code 3 (Option.some .int)) ∈ g_tbl := tm_3 (List.mem_of_getElem? (i := 14) rfl) rfl
theorem mw_3_15 : (Cond.methodLink "OneLamp$Law" 55 ⟨"java/lang/Integer", "bitCount", "(I)I"⟩) ∈ g_tbl := tm_3 (List.mem_of_getElem? (i := 15) rfl) rfl
theorem mw_3_16 : (Cond.static ⟨"java/lang/Integer", "bitCount", "(I)I"⟩) ∈ g_tbl := tm_3 (List.mem_of_getElem? (i := 16) rfl) rfl
theorem mw_3_17 : (Cond.code ⟨"java/lang/Integer", "bitCount", "(I)I"⟩ prog_14_method_49_code 1 (Option.some .int)) ∈ g_tbl := tm_3 (List.mem_of_getElem? (i := 17) rfl) rfl
theorem mw_3_18 : (Cond.constant "java/lang/Integer" 265 1431655765) ∈ g_tbl := tm_3 (List.mem_of_getElem? (i := 18) rfl) rfl
theorem mw_3_19 : (Cond.constant "java/lang/Integer" 266 858993459) ∈ g_tbl := tm_3 (List.mem_of_getElem? (i := 19) rfl) rfl
theorem mw_3_20 : (Cond.constant "java/lang/Integer" 267 252645135) ∈ g_tbl := tm_3 (List.mem_of_getElem? (i := 20) rfl) rfl
theorem mw_3_21 : (Cond.methodLink "OneLamp$Law" 61 ⟨"OneLamp$Law", "highestOf", "(I)I"⟩) ∈ g_tbl := tm_3 (List.mem_of_getElem? (i := 21) rfl) rfl
theorem mw_3_22 : (Cond.static ⟨"OneLamp$Law", "highestOf", "(I)I"⟩) ∈ g_tbl := tm_3 (List.mem_of_getElem? (i := 22) rfl) rfl
theorem mw_3_23 : (Cond.code ⟨"OneLamp$Law", "highestOf", "(I)I"⟩ prog_4_method_6_code 2 (Option.some .int)) ∈ g_tbl := tm_3 (List.mem_of_getElem? (i := 23) rfl) rfl
theorem mw_3_24 : (Cond.methodLink "OneLamp$Law" 51 ⟨"OneLamp$Law", "push", "(I)V"⟩) ∈ g_tbl := tm_3 (List.mem_of_getElem? (i := 24) rfl) rfl
theorem mw_3_26 : (Cond.instanceMethod ⟨"OneLamp$Law", "push", "(I)V"⟩) ∈ g_tbl := tm_3 (List.mem_of_getElem? (i := 26) rfl) rfl
theorem mw_3_27 : (Cond.code ⟨"OneLamp$Law", "push", "(I)V"⟩ prog_4_method_7_code 2 (Option.none : Option Jvm.ClassFile.FieldType)) ∈ g_tbl := tm_3 (List.mem_of_getElem? (i := 27) rfl) rfl
theorem mw_3_28 : (Cond.methodLink "OneLampLaw" 57 ⟨"OneLamp", "lamp", "(II)I"⟩) ∈ g_tbl := tm_3 (List.mem_of_getElem? (i := 28) rfl) rfl
theorem mw_3_29 : (Cond.instanceMethod ⟨"OneLamp", "lamp", "(II)I"⟩) ∈ g_tbl := tm_3 (List.mem_of_getElem? (i := 29) rfl) rfl
theorem mw_3_30 : (Cond.selects "OneLamp" ⟨"OneLamp", "lamp", "(II)I"⟩ ⟨"OneLamp", "lamp", "(II)I"⟩) ∈ g_tbl := tm_3 (List.mem_of_getElem? (i := 30) rfl) rfl
theorem mw_3_31 : (Cond.code ⟨"OneLamp", "lamp", "(II)I"⟩ prog_1_method_12_code 3 (Option.some .int)) ∈ g_tbl := tm_3 (List.mem_of_getElem? (i := 31) rfl) rfl
theorem mw_3_32 : (Cond.methodLink "OneLamp" 161 ⟨"OneLamp$Wall", "hasLamp", "(I)Z"⟩) ∈ g_tbl := tm_3 (List.mem_of_getElem? (i := 32) rfl) rfl
theorem mw_3_33 : (Cond.instanceMethod ⟨"OneLamp$Wall", "hasLamp", "(I)Z"⟩) ∈ g_tbl := tm_3 (List.mem_of_getElem? (i := 33) rfl) rfl
theorem mw_3_34 : (Cond.selects "OneLamp$Wall" ⟨"OneLamp$Wall", "hasLamp", "(I)Z"⟩ ⟨"OneLamp$Wall", "hasLamp", "(I)Z"⟩) ∈ g_tbl := tm_3 (List.mem_of_getElem? (i := 34) rfl) rfl
theorem mw_3_35 : (Cond.code ⟨"OneLamp$Wall", "hasLamp", "(I)Z"⟩ prog_11_method_3_code 2 (Option.some .boolean)) ∈ g_tbl := tm_3 (List.mem_of_getElem? (i := 35) rfl) rfl
theorem mw_3_36 : (Cond.methodLink "OneLamp" 164 ⟨"OneLamp$Wall", "oftenOf", "(I)I"⟩) ∈ g_tbl := tm_3 (List.mem_of_getElem? (i := 36) rfl) rfl
theorem mw_3_37 : (Cond.instanceMethod ⟨"OneLamp$Wall", "oftenOf", "(I)I"⟩) ∈ g_tbl := tm_3 (List.mem_of_getElem? (i := 37) rfl) rfl
theorem mw_3_38 : (Cond.selects "OneLamp$Wall" ⟨"OneLamp$Wall", "oftenOf", "(I)I"⟩ ⟨"OneLamp$Wall", "oftenOf", "(I)I"⟩) ∈ g_tbl := tm_3 (List.mem_of_getElem? (i := 38) rfl) rfl
theorem mw_3_39 : (Cond.code ⟨"OneLamp$Wall", "oftenOf", "(I)I"⟩ prog_11_method_7_code 2 (Option.some .int)) ∈ g_tbl := tm_3 (List.mem_of_getElem? (i := 39) rfl) rfl
theorem mw_3_40 : (Cond.methodLink "OneLamp$Wall" 67 ⟨"OneLamp$Wall", "hasLamp", "(I)Z"⟩) ∈ g_tbl := tm_3 (List.mem_of_getElem? (i := 40) rfl) rfl
theorem mw_3_41 : (Cond.methodLink "OneLamp" 167 ⟨"OneLamp$Wall", "lastOf", "(I)I"⟩) ∈ g_tbl := tm_3 (List.mem_of_getElem? (i := 41) rfl) rfl
theorem mw_3_42 : (Cond.instanceMethod ⟨"OneLamp$Wall", "lastOf", "(I)I"⟩) ∈ g_tbl := tm_3 (List.mem_of_getElem? (i := 42) rfl) rfl
theorem mw_3_43 : (Cond.selects "OneLamp$Wall" ⟨"OneLamp$Wall", "lastOf", "(I)I"⟩ ⟨"OneLamp$Wall", "lastOf", "(I)I"⟩) ∈ g_tbl := tm_3 (List.mem_of_getElem? (i := 43) rfl) rfl
theorem mw_3_44 : (Cond.code ⟨"OneLamp$Wall", "lastOf", "(I)I"⟩ prog_11_method_6_code 2 (Option.some .int)) ∈ g_tbl := tm_3 (List.mem_of_getElem? (i := 44) rfl) rfl
theorem mw_3_45 : (Cond.methodLink "OneLampLaw" 61 ⟨"OneLamp", "may", "()I"⟩) ∈ g_tbl := tm_3 (List.mem_of_getElem? (i := 45) rfl) rfl
theorem mw_3_46 : (Cond.instanceMethod ⟨"OneLamp", "may", "()I"⟩) ∈ g_tbl := tm_3 (List.mem_of_getElem? (i := 46) rfl) rfl
theorem mw_3_47 : (Cond.selects "OneLamp" ⟨"OneLamp", "may", "()I"⟩ ⟨"OneLamp", "may", "()I"⟩) ∈ g_tbl := tm_3 (List.mem_of_getElem? (i := 47) rfl) rfl
theorem mw_3_48 : (Cond.code ⟨"OneLamp", "may", "()I"⟩ prog_1_method_13_code 3 (Option.some .int)) ∈ g_tbl := tm_3 (List.mem_of_getElem? (i := 48) rfl) rfl
theorem mw_3_49 : (Cond.methodLink "OneLamp" 170 ⟨"OneLamp$Rules", "allow", "(LOneLamp$Wall;I)Z"⟩) ∈ g_tbl := tm_3 (List.mem_of_getElem? (i := 49) rfl) rfl
theorem mw_3_50 : (Cond.instanceMethod ⟨"OneLamp$Rules", "allow", "(LOneLamp$Wall;I)Z"⟩) ∈ g_tbl := tm_3 (List.mem_of_getElem? (i := 50) rfl) rfl
theorem mw_3_51 : (Cond.selects "OneLamp$Rules" ⟨"OneLamp$Rules", "allow", "(LOneLamp$Wall;I)Z"⟩ ⟨"OneLamp$Rules", "allow", "(LOneLamp$Wall;I)Z"⟩) ∈ g_tbl := tm_3 (List.mem_of_getElem? (i := 51) rfl) rfl
theorem mw_3_52 : (Cond.code ⟨"OneLamp$Rules", "allow", "(LOneLamp$Wall;I)Z"⟩ prog_6_method_4_code 4 (Option.some .boolean)) ∈ g_tbl := tm_3 (List.mem_of_getElem? (i := 52) rfl) rfl
theorem mw_3_53 : (Cond.methodLink "OneLamp$Rules" 62 ⟨"OneLamp$Wall", "hasLamp", "(I)Z"⟩) ∈ g_tbl := tm_3 (List.mem_of_getElem? (i := 53) rfl) rfl
theorem mw_3_54 : (Cond.methodLink "OneLamp$Rules" 65 ⟨"OneLamp$Rules", "isResting", "(LOneLamp$Wall;I)Z"⟩) ∈ g_tbl := tm_3 (List.mem_of_getElem? (i := 54) rfl) rfl
theorem mw_3_56 : (Cond.instanceMethod ⟨"OneLamp$Rules", "isResting", "(LOneLamp$Wall;I)Z"⟩) ∈ g_tbl := tm_3 (List.mem_of_getElem? (i := 56) rfl) rfl
theorem mw_3_57 : (Cond.code ⟨"OneLamp$Rules", "isResting", "(LOneLamp$Wall;I)Z"⟩ prog_6_method_5_code 4 (Option.some .boolean)) ∈ g_tbl := tm_3 (List.mem_of_getElem? (i := 57) rfl) rfl
theorem mw_3_58 : (Cond.methodLink "OneLamp$Rules" 84 ⟨"OneLamp$Wall", "lastOf", "(I)I"⟩) ∈ g_tbl := tm_3 (List.mem_of_getElem? (i := 58) rfl) rfl
theorem mw_3_59 : (Cond.methodLink "OneLamp$Rules" 75 ⟨"OneLamp$Rules", "isBarred", "(LOneLamp$Wall;I)Z"⟩) ∈ g_tbl := tm_3 (List.mem_of_getElem? (i := 59) rfl) rfl
theorem mw_3_60 : (Cond.methodLink "OneLamp$Rules" 81 ⟨"OneLamp$Rules", "isBesideOneHad", "(LOneLamp$Wall;I)Z"⟩) ∈ g_tbl := tm_3 (List.mem_of_getElem? (i := 60) rfl) rfl
theorem mw_3_61 : (Cond.static ⟨"OneLamp$Rules", "isBesideOneHad", "(LOneLamp$Wall;I)Z"⟩) ∈ g_tbl := tm_3 (List.mem_of_getElem? (i := 61) rfl) rfl
theorem mw_3_62 : (Cond.code ⟨"OneLamp$Rules", "isBesideOneHad", "(LOneLamp$Wall;I)Z"⟩ prog_6_method_6_code 4 (Option.some .boolean)) ∈ g_tbl := tm_3 (List.mem_of_getElem? (i := 62) rfl) rfl
theorem mw_3_63 : (Cond.methodLink "OneLampLaw" 65 ⟨"OneLamp", "change", "(I)I"⟩) ∈ g_tbl := tm_3 (List.mem_of_getElem? (i := 63) rfl) rfl
theorem mw_3_64 : (Cond.instanceMethod ⟨"OneLamp", "change", "(I)I"⟩) ∈ g_tbl := tm_3 (List.mem_of_getElem? (i := 64) rfl) rfl
theorem mw_3_65 : (Cond.selects "OneLamp" ⟨"OneLamp", "change", "(I)I"⟩ ⟨"OneLamp", "change", "(I)I"⟩) ∈ g_tbl := tm_3 (List.mem_of_getElem? (i := 65) rfl) rfl
theorem mw_3_66 : (Cond.code ⟨"OneLamp", "change", "(I)I"⟩ prog_1_method_14_code 2 (Option.some .int)) ∈ g_tbl := tm_3 (List.mem_of_getElem? (i := 66) rfl) rfl
theorem mw_3_67 : (Cond.methodLink "OneLamp" 173 ⟨"OneLamp$Wall", "step", "(I)V"⟩) ∈ g_tbl := tm_3 (List.mem_of_getElem? (i := 67) rfl) rfl
theorem mw_3_68 : (Cond.instanceMethod ⟨"OneLamp$Wall", "step", "(I)V"⟩) ∈ g_tbl := tm_3 (List.mem_of_getElem? (i := 68) rfl) rfl
theorem mw_3_69 : (Cond.selects "OneLamp$Wall" ⟨"OneLamp$Wall", "step", "(I)V"⟩ ⟨"OneLamp$Wall", "step", "(I)V"⟩) ∈ g_tbl := tm_3 (List.mem_of_getElem? (i := 69) rfl) rfl
theorem mw_3_70 : (Cond.code ⟨"OneLamp$Wall", "step", "(I)V"⟩ prog_11_method_8_code 2 (Option.none : Option Jvm.ClassFile.FieldType)) ∈ g_tbl := tm_3 (List.mem_of_getElem? (i := 70) rfl) rfl
theorem mw_3_71 : (Cond.methodLink "OneLamp" 176 ⟨"OneLamp$Wall", "pay", "(II)V"⟩) ∈ g_tbl := tm_3 (List.mem_of_getElem? (i := 71) rfl) rfl
theorem mw_3_72 : (Cond.instanceMethod ⟨"OneLamp$Wall", "pay", "(II)V"⟩) ∈ g_tbl := tm_3 (List.mem_of_getElem? (i := 72) rfl) rfl
theorem mw_3_73 : (Cond.selects "OneLamp$Wall" ⟨"OneLamp$Wall", "pay", "(II)V"⟩ ⟨"OneLamp$Wall", "pay", "(II)V"⟩) ∈ g_tbl := tm_3 (List.mem_of_getElem? (i := 73) rfl) rfl
theorem mw_3_74 : (Cond.code ⟨"OneLamp$Wall", "pay", "(II)V"⟩ prog_11_method_10_code 3 (Option.none : Option Jvm.ClassFile.FieldType)) ∈ g_tbl := tm_3 (List.mem_of_getElem? (i := 74) rfl) rfl
theorem mw_3_75 : (Cond.methodLink "OneLampLaw" 69 ⟨"OneLamp", "longest", "(I)I"⟩) ∈ g_tbl := tm_3 (List.mem_of_getElem? (i := 75) rfl) rfl
theorem mw_3_76 : (Cond.instanceMethod ⟨"OneLamp", "longest", "(I)I"⟩) ∈ g_tbl := tm_3 (List.mem_of_getElem? (i := 76) rfl) rfl
theorem mw_3_77 : (Cond.selects "OneLamp" ⟨"OneLamp", "longest", "(I)I"⟩ ⟨"OneLamp", "longest", "(I)I"⟩) ∈ g_tbl := tm_3 (List.mem_of_getElem? (i := 77) rfl) rfl
theorem mw_3_78 : (Cond.code ⟨"OneLamp", "longest", "(I)I"⟩ prog_1_method_15_code 3 (Option.some .int)) ∈ g_tbl := tm_3 (List.mem_of_getElem? (i := 78) rfl) rfl
theorem mw_3_79 : (Cond.methodLink "OneLamp" 179 ⟨"OneLamp$Thought", "longestFrom", "(LOneLamp$Wall;LOneLamp$Rules;)I"⟩) ∈ g_tbl := tm_3 (List.mem_of_getElem? (i := 79) rfl) rfl
theorem mw_3_80 : (Cond.instanceMethod ⟨"OneLamp$Thought", "longestFrom", "(LOneLamp$Wall;LOneLamp$Rules;)I"⟩) ∈ g_tbl := tm_3 (List.mem_of_getElem? (i := 80) rfl) rfl
theorem mw_3_81 : (Cond.selects "OneLamp$Thought" ⟨"OneLamp$Thought", "longestFrom", "(LOneLamp$Wall;LOneLamp$Rules;)I"⟩ ⟨"OneLamp$Thought", "longestFrom", "(LOneLamp$Wall;LOneLamp$Rules;)I"⟩) ∈ g_tbl := tm_3 (List.mem_of_getElem? (i := 81) rfl) rfl
theorem mw_3_82 : (Cond.code ⟨"OneLamp$Thought", "longestFrom", "(LOneLamp$Wall;LOneLamp$Rules;)I"⟩ prog_10_method_3_code 3 (Option.some .int)) ∈ g_tbl := tm_3 (List.mem_of_getElem? (i := 82) rfl) rfl
theorem mw_3_83 : (Cond.methodLink "OneLamp$Thought" 29 ⟨"OneLamp$Thought", "beginSearch", "(LOneLamp$Wall;LOneLamp$Rules;)V"⟩) ∈ g_tbl := tm_3 (List.mem_of_getElem? (i := 83) rfl) rfl
theorem mw_3_85 : (Cond.instanceMethod ⟨"OneLamp$Thought", "beginSearch", "(LOneLamp$Wall;LOneLamp$Rules;)V"⟩) ∈ g_tbl := tm_3 (List.mem_of_getElem? (i := 85) rfl) rfl
theorem mw_3_86 : (Cond.code ⟨"OneLamp$Thought", "beginSearch", "(LOneLamp$Wall;LOneLamp$Rules;)V"⟩ prog_10_method_9_code 4 (Option.none : Option Jvm.ClassFile.FieldType)) ∈ g_tbl := tm_3 (List.mem_of_getElem? (i := 86) rfl) rfl
theorem mw_3_87 : (Cond.methodLink "OneLamp$Thought" 47 ⟨"OneLamp$Wall", "become", "(LOneLamp$Wall;)V"⟩) ∈ g_tbl := tm_3 (List.mem_of_getElem? (i := 87) rfl) rfl
theorem mw_3_88 : (Cond.instanceMethod ⟨"OneLamp$Wall", "become", "(LOneLamp$Wall;)V"⟩) ∈ g_tbl := tm_3 (List.mem_of_getElem? (i := 88) rfl) rfl
theorem mw_3_89 : (Cond.selects "OneLamp$Wall" ⟨"OneLamp$Wall", "become", "(LOneLamp$Wall;)V"⟩ ⟨"OneLamp$Wall", "become", "(LOneLamp$Wall;)V"⟩) ∈ g_tbl := tm_3 (List.mem_of_getElem? (i := 89) rfl) rfl
theorem mw_3_90 : (Cond.code ⟨"OneLamp$Wall", "become", "(LOneLamp$Wall;)V"⟩ prog_11_method_5_code 2 (Option.none : Option Jvm.ClassFile.FieldType)) ∈ g_tbl := tm_3 (List.mem_of_getElem? (i := 90) rfl) rfl
theorem mw_3_91 : (Cond.methodLink "OneLamp$Wall" 57 ⟨"OneLamp$Pictures", "become", "(LOneLamp$Pictures;)V"⟩) ∈ g_tbl := tm_3 (List.mem_of_getElem? (i := 91) rfl) rfl
theorem mw_3_92 : (Cond.instanceMethod ⟨"OneLamp$Pictures", "become", "(LOneLamp$Pictures;)V"⟩) ∈ g_tbl := tm_3 (List.mem_of_getElem? (i := 92) rfl) rfl
theorem mw_3_93 : (Cond.selects "OneLamp$Pictures" ⟨"OneLamp$Pictures", "become", "(LOneLamp$Pictures;)V"⟩ ⟨"OneLamp$Pictures", "become", "(LOneLamp$Pictures;)V"⟩) ∈ g_tbl := tm_3 (List.mem_of_getElem? (i := 93) rfl) rfl
theorem mw_3_94 : (Cond.code ⟨"OneLamp$Pictures", "become", "(LOneLamp$Pictures;)V"⟩ prog_5_method_7_code 2 (Option.none : Option Jvm.ClassFile.FieldType)) ∈ g_tbl := tm_3 (List.mem_of_getElem? (i := 94) rfl) rfl
theorem mw_3_95 : (Cond.methodLink "OneLamp$Pictures" 27 ⟨"java/lang/System", "arraycopy", "(Ljava/lang/Object;ILjava/lang/Object;II)V"⟩) ∈ g_tbl := tm_3 (List.mem_of_getElem? (i := 95) rfl) rfl
theorem mw_3_96 : (Cond.methodLink "OneLamp$Wall" 61 ⟨"java/lang/System", "arraycopy", "(Ljava/lang/Object;ILjava/lang/Object;II)V"⟩) ∈ g_tbl := tm_3 (List.mem_of_getElem? (i := 96) rfl) rfl
theorem mw_3_97 : (Cond.methodLink "OneLamp$Thought" 64 ⟨"OneLamp$Wall", "hasPicture", "(I)Z"⟩) ∈ g_tbl := tm_3 (List.mem_of_getElem? (i := 97) rfl) rfl
theorem mw_3_98 : (Cond.methodLink "OneLamp$Thought" 68 ⟨"OneLamp$Rules", "isBarred", "(LOneLamp$Wall;I)Z"⟩) ∈ g_tbl := tm_3 (List.mem_of_getElem? (i := 98) rfl) rfl
theorem mw_3_99 : (Cond.methodLink "OneLamp$Thought" 33 ⟨"OneLamp$Thought", "seekLongest", "(LOneLamp$Thought;LOneLamp$Rules;I)V"⟩) ∈ g_tbl := tm_3 (List.mem_of_getElem? (i := 99) rfl) rfl
theorem mw_3_100 : (Cond.static ⟨"OneLamp$Thought", "seekLongest", "(LOneLamp$Thought;LOneLamp$Rules;I)V"⟩) ∈ g_tbl := tm_3 (List.mem_of_getElem? (i := 100) rfl) rfl
theorem mw_3_101 : (Cond.code ⟨"OneLamp$Thought", "seekLongest", "(LOneLamp$Thought;LOneLamp$Rules;I)V"⟩ prog_10_method_14_code 5 (Option.none : Option Jvm.ClassFile.FieldType)) ∈ g_tbl := tm_3 (List.mem_of_getElem? (i := 101) rfl) rfl
theorem mw_3_102 : (Cond.methodLink "OneLamp$Thought" 121 ⟨"java/lang/System", "arraycopy", "(Ljava/lang/Object;ILjava/lang/Object;II)V"⟩) ∈ g_tbl := tm_3 (List.mem_of_getElem? (i := 102) rfl) rfl
theorem mw_3_103 : (Cond.methodLink "OneLamp$Thought" 127 ⟨"OneLamp$Thought", "reachable", "()I"⟩) ∈ g_tbl := tm_3 (List.mem_of_getElem? (i := 103) rfl) rfl
theorem mw_3_105 : (Cond.instanceMethod ⟨"OneLamp$Thought", "reachable", "()I"⟩) ∈ g_tbl := tm_3 (List.mem_of_getElem? (i := 105) rfl) rfl
theorem mw_3_106 : (Cond.code ⟨"OneLamp$Thought", "reachable", "()I"⟩ prog_10_method_12_code 5 (Option.some .int)) ∈ g_tbl := tm_3 (List.mem_of_getElem? (i := 106) rfl) rfl
theorem mw_3_107 : (Cond.methodLink "OneLamp$Thought" 105 ⟨"OneLamp$Pictures", "firstSixteen", "()I"⟩) ∈ g_tbl := tm_3 (List.mem_of_getElem? (i := 107) rfl) rfl
theorem mw_3_108 : (Cond.instanceMethod ⟨"OneLamp$Pictures", "firstSixteen", "()I"⟩) ∈ g_tbl := tm_3 (List.mem_of_getElem? (i := 108) rfl) rfl
theorem mw_3_109 : (Cond.selects "OneLamp$Pictures" ⟨"OneLamp$Pictures", "firstSixteen", "()I"⟩ ⟨"OneLamp$Pictures", "firstSixteen", "()I"⟩) ∈ g_tbl := tm_3 (List.mem_of_getElem? (i := 109) rfl) rfl
theorem mw_3_110 : (Cond.code ⟨"OneLamp$Pictures", "firstSixteen", "()I"⟩ prog_5_method_9_code 1 (Option.some .int)) ∈ g_tbl := tm_3 (List.mem_of_getElem? (i := 110) rfl) rfl
theorem mw_3_111 : (Cond.constantLong "OneLamp$Pictures" 39 65535) ∈ g_tbl := tm_3 (List.mem_of_getElem? (i := 111) rfl) rfl
theorem mw_3_112 : (Cond.methodLink "OneLamp$Thought" 111 ⟨"OneLamp$Thought", "besides", "(I)I"⟩) ∈ g_tbl := tm_3 (List.mem_of_getElem? (i := 112) rfl) rfl
theorem mw_3_113 : (Cond.static ⟨"OneLamp$Thought", "besides", "(I)I"⟩) ∈ g_tbl := tm_3 (List.mem_of_getElem? (i := 113) rfl) rfl
theorem mw_3_114 : (Cond.code ⟨"OneLamp$Thought", "besides", "(I)I"⟩ prog_10_method_11_code 1 (Option.some .int)) ∈ g_tbl := tm_3 (List.mem_of_getElem? (i := 114) rfl) rfl
theorem mw_3_115 : (Cond.methodLink "OneLamp$Thought" 130 ⟨"OneLamp$Thought", "mostNightsThrough", "(I)I"⟩) ∈ g_tbl := tm_3 (List.mem_of_getElem? (i := 115) rfl) rfl
theorem mw_3_117 : (Cond.instanceMethod ⟨"OneLamp$Thought", "mostNightsThrough", "(I)I"⟩) ∈ g_tbl := tm_3 (List.mem_of_getElem? (i := 117) rfl) rfl
theorem mw_3_118 : (Cond.code ⟨"OneLamp$Thought", "mostNightsThrough", "(I)I"⟩ prog_10_method_13_code 7 (Option.some .int)) ∈ g_tbl := tm_3 (List.mem_of_getElem? (i := 118) rfl) rfl
theorem mw_3_119 : (Cond.constant "OneLamp$Thought" 114 38505) ∈ g_tbl := tm_3 (List.mem_of_getElem? (i := 119) rfl) rfl
theorem mw_3_120 : (Cond.methodLink "OneLamp$Thought" 115 ⟨"java/lang/Integer", "bitCount", "(I)I"⟩) ∈ g_tbl := tm_3 (List.mem_of_getElem? (i := 120) rfl) rfl
theorem mw_3_121 : (Cond.constant "OneLamp$Thought" 120 (-38506)) ∈ g_tbl := tm_3 (List.mem_of_getElem? (i := 121) rfl) rfl
theorem mw_3_122 : (Cond.methodLink "OneLamp$Thought" 82 ⟨"OneLamp$Rules", "allow", "(LOneLamp$Wall;I)Z"⟩) ∈ g_tbl := tm_3 (List.mem_of_getElem? (i := 122) rfl) rfl
theorem mw_3_123 : (Cond.methodLink "OneLamp$Thought" 133 ⟨"OneLamp$Wall", "lastOf", "(I)I"⟩) ∈ g_tbl := tm_3 (List.mem_of_getElem? (i := 123) rfl) rfl
theorem mw_3_124 : (Cond.methodLink "OneLamp$Thought" 85 ⟨"OneLamp$Wall", "step", "(I)V"⟩) ∈ g_tbl := tm_3 (List.mem_of_getElem? (i := 124) rfl) rfl
theorem mw_3_125 : (Cond.methodLink "OneLamp$Thought" 136 ⟨"OneLamp$Wall", "stepBack", "(II)V"⟩) ∈ g_tbl := tm_3 (List.mem_of_getElem? (i := 125) rfl) rfl
theorem mw_3_126 : (Cond.instanceMethod ⟨"OneLamp$Wall", "stepBack", "(II)V"⟩) ∈ g_tbl := tm_3 (List.mem_of_getElem? (i := 126) rfl) rfl
theorem mw_3_127 : (Cond.selects "OneLamp$Wall" ⟨"OneLamp$Wall", "stepBack", "(II)V"⟩ ⟨"OneLamp$Wall", "stepBack", "(II)V"⟩) ∈ g_tbl := tm_3 (List.mem_of_getElem? (i := 127) rfl) rfl
theorem mw_3_128 : (Cond.code ⟨"OneLamp$Wall", "stepBack", "(II)V"⟩ prog_11_method_9_code 3 (Option.none : Option Jvm.ClassFile.FieldType)) ∈ g_tbl := tm_3 (List.mem_of_getElem? (i := 128) rfl) rfl
theorem mw_3_129 : (Cond.methodLink "OneLamp$Wall" 71 ⟨"OneLamp$Pictures", "remove", "(I)V"⟩) ∈ g_tbl := tm_3 (List.mem_of_getElem? (i := 129) rfl) rfl
theorem mw_3_130 : (Cond.methodLink "OneLamp" 183 ⟨"OneLamp$Thought", "lampOfBest", "(I)I"⟩) ∈ g_tbl := tm_3 (List.mem_of_getElem? (i := 130) rfl) rfl
theorem mw_3_131 : (Cond.instanceMethod ⟨"OneLamp$Thought", "lampOfBest", "(I)I"⟩) ∈ g_tbl := tm_3 (List.mem_of_getElem? (i := 131) rfl) rfl
theorem mw_3_132 : (Cond.selects "OneLamp$Thought" ⟨"OneLamp$Thought", "lampOfBest", "(I)I"⟩ ⟨"OneLamp$Thought", "lampOfBest", "(I)I"⟩) ∈ g_tbl := tm_3 (List.mem_of_getElem? (i := 132) rfl) rfl
theorem mw_3_133 : (Cond.code ⟨"OneLamp$Thought", "lampOfBest", "(I)I"⟩ prog_10_method_2_code 2 (Option.some .int)) ∈ g_tbl := tm_3 (List.mem_of_getElem? (i := 133) rfl) rfl
theorem mw_3_134 : (Cond.methodLink "OneLampLaw" 73 ⟨"OneLamp", "wished", "(I)I"⟩) ∈ g_tbl := tm_3 (List.mem_of_getElem? (i := 134) rfl) rfl
theorem mw_3_135 : (Cond.instanceMethod ⟨"OneLamp", "wished", "(I)I"⟩) ∈ g_tbl := tm_3 (List.mem_of_getElem? (i := 135) rfl) rfl
theorem mw_3_136 : (Cond.selects "OneLamp" ⟨"OneLamp", "wished", "(I)I"⟩ ⟨"OneLamp", "wished", "(I)I"⟩) ∈ g_tbl := tm_3 (List.mem_of_getElem? (i := 136) rfl) rfl
theorem mw_3_137 : (Cond.code ⟨"OneLamp", "wished", "(I)I"⟩ prog_1_method_16_code 2 (Option.some .int)) ∈ g_tbl := tm_3 (List.mem_of_getElem? (i := 137) rfl) rfl
theorem mw_3_138 : (Cond.methodLink "OneLamp" 186 ⟨"OneLamp$Thought", "wishedFrom", "(LOneLamp$Wall;LOneLamp$Rules;I)I"⟩) ∈ g_tbl := tm_3 (List.mem_of_getElem? (i := 138) rfl) rfl
theorem mw_3_139 : (Cond.instanceMethod ⟨"OneLamp$Thought", "wishedFrom", "(LOneLamp$Wall;LOneLamp$Rules;I)I"⟩) ∈ g_tbl := tm_3 (List.mem_of_getElem? (i := 139) rfl) rfl
theorem mw_3_140 : (Cond.selects "OneLamp$Thought" ⟨"OneLamp$Thought", "wishedFrom", "(LOneLamp$Wall;LOneLamp$Rules;I)I"⟩ ⟨"OneLamp$Thought", "wishedFrom", "(LOneLamp$Wall;LOneLamp$Rules;I)I"⟩) ∈ g_tbl := tm_3 (List.mem_of_getElem? (i := 140) rfl) rfl
theorem mw_3_141 : (Cond.code ⟨"OneLamp$Thought", "wishedFrom", "(LOneLamp$Wall;LOneLamp$Rules;I)I"⟩ prog_10_method_4_code 4 (Option.some .int)) ∈ g_tbl := tm_3 (List.mem_of_getElem? (i := 141) rfl) rfl
theorem mw_3_142 : (Cond.methodLink "OneLamp$Thought" 40 ⟨"OneLamp$Thought", "seekWished", "(LOneLamp$Thought;LOneLamp$Rules;I)V"⟩) ∈ g_tbl := tm_3 (List.mem_of_getElem? (i := 142) rfl) rfl
theorem mw_3_143 : (Cond.static ⟨"OneLamp$Thought", "seekWished", "(LOneLamp$Thought;LOneLamp$Rules;I)V"⟩) ∈ g_tbl := tm_3 (List.mem_of_getElem? (i := 143) rfl) rfl
theorem mw_3_144 : (Cond.code ⟨"OneLamp$Thought", "seekWished", "(LOneLamp$Thought;LOneLamp$Rules;I)V"⟩ prog_10_method_15_code 5 (Option.none : Option Jvm.ClassFile.FieldType)) ∈ g_tbl := tm_3 (List.mem_of_getElem? (i := 144) rfl) rfl
theorem mw_3_145 : (Cond.methodLink "OneLamp$Thought" 140 ⟨"OneLamp$Thought", "canFindMore", "(I)Z"⟩) ∈ g_tbl := tm_3 (List.mem_of_getElem? (i := 145) rfl) rfl
theorem mw_3_147 : (Cond.instanceMethod ⟨"OneLamp$Thought", "canFindMore", "(I)Z"⟩) ∈ g_tbl := tm_3 (List.mem_of_getElem? (i := 147) rfl) rfl
theorem mw_3_148 : (Cond.code ⟨"OneLamp$Thought", "canFindMore", "(I)Z"⟩ prog_10_method_16_code 5 (Option.some .boolean)) ∈ g_tbl := tm_3 (List.mem_of_getElem? (i := 148) rfl) rfl
theorem mw_3_149 : (Cond.methodLink "OneLampLaw" 77 ⟨"OneLamp", "game", "(I)I"⟩) ∈ g_tbl := tm_3 (List.mem_of_getElem? (i := 149) rfl) rfl
theorem mw_3_150 : (Cond.instanceMethod ⟨"OneLamp", "game", "(I)I"⟩) ∈ g_tbl := tm_3 (List.mem_of_getElem? (i := 150) rfl) rfl
theorem mw_3_151 : (Cond.selects "OneLamp" ⟨"OneLamp", "game", "(I)I"⟩ ⟨"OneLamp", "game", "(I)I"⟩) ∈ g_tbl := tm_3 (List.mem_of_getElem? (i := 151) rfl) rfl
theorem mw_3_152 : (Cond.code ⟨"OneLamp", "game", "(I)I"⟩ prog_1_method_17_code 3 (Option.some .int)) ∈ g_tbl := tm_3 (List.mem_of_getElem? (i := 152) rfl) rfl
theorem mw_3_153 : (Cond.methodLink "OneLamp" 190 ⟨"OneLamp$Thought", "gameFrom", "(LOneLamp$Wall;LOneLamp$Rules;)I"⟩) ∈ g_tbl := tm_3 (List.mem_of_getElem? (i := 153) rfl) rfl
theorem mw_3_154 : (Cond.instanceMethod ⟨"OneLamp$Thought", "gameFrom", "(LOneLamp$Wall;LOneLamp$Rules;)I"⟩) ∈ g_tbl := tm_3 (List.mem_of_getElem? (i := 154) rfl) rfl
theorem mw_3_155 : (Cond.selects "OneLamp$Thought" ⟨"OneLamp$Thought", "gameFrom", "(LOneLamp$Wall;LOneLamp$Rules;)I"⟩ ⟨"OneLamp$Thought", "gameFrom", "(LOneLamp$Wall;LOneLamp$Rules;)I"⟩) ∈ g_tbl := tm_3 (List.mem_of_getElem? (i := 155) rfl) rfl
theorem mw_3_156 : (Cond.code ⟨"OneLamp$Thought", "gameFrom", "(LOneLamp$Wall;LOneLamp$Rules;)I"⟩ prog_10_method_5_code 3 (Option.some .int)) ∈ g_tbl := tm_3 (List.mem_of_getElem? (i := 156) rfl) rfl
theorem mw_3_157 : (Cond.methodLink "OneLamp$Thought" 43 ⟨"OneLamp$Thought", "seekWin", "(LOneLamp$Thought;LOneLamp$Rules;I)I"⟩) ∈ g_tbl := tm_3 (List.mem_of_getElem? (i := 157) rfl) rfl
theorem mw_3_158 : (Cond.static ⟨"OneLamp$Thought", "seekWin", "(LOneLamp$Thought;LOneLamp$Rules;I)I"⟩) ∈ g_tbl := tm_3 (List.mem_of_getElem? (i := 158) rfl) rfl
theorem mw_3_159 : (Cond.code ⟨"OneLamp$Thought", "seekWin", "(LOneLamp$Thought;LOneLamp$Rules;I)I"⟩ prog_10_method_17_code 6 (Option.some .int)) ∈ g_tbl := tm_3 (List.mem_of_getElem? (i := 159) rfl) rfl
theorem mw_3_160 : (Cond.methodLink "OneLampLaw" 81 ⟨"OneLamp", "ways", "(II)I"⟩) ∈ g_tbl := tm_3 (List.mem_of_getElem? (i := 160) rfl) rfl
theorem mw_3_161 : (Cond.instanceMethod ⟨"OneLamp", "ways", "(II)I"⟩) ∈ g_tbl := tm_3 (List.mem_of_getElem? (i := 161) rfl) rfl
theorem mw_3_162 : (Cond.selects "OneLamp" ⟨"OneLamp", "ways", "(II)I"⟩ ⟨"OneLamp", "ways", "(II)I"⟩) ∈ g_tbl := tm_3 (List.mem_of_getElem? (i := 162) rfl) rfl
theorem mw_3_163 : (Cond.code ⟨"OneLamp", "ways", "(II)I"⟩ prog_1_method_18_code 3 (Option.some .int)) ∈ g_tbl := tm_3 (List.mem_of_getElem? (i := 163) rfl) rfl
theorem mw_3_164 : (Cond.methodLink "OneLamp" 193 ⟨"OneLamp$Thought", "waysFrom", "(LOneLamp$Wall;LOneLamp$Rules;II)I"⟩) ∈ g_tbl := tm_3 (List.mem_of_getElem? (i := 164) rfl) rfl
theorem mw_3_165 : (Cond.instanceMethod ⟨"OneLamp$Thought", "waysFrom", "(LOneLamp$Wall;LOneLamp$Rules;II)I"⟩) ∈ g_tbl := tm_3 (List.mem_of_getElem? (i := 165) rfl) rfl
theorem mw_3_166 : (Cond.selects "OneLamp$Thought" ⟨"OneLamp$Thought", "waysFrom", "(LOneLamp$Wall;LOneLamp$Rules;II)I"⟩ ⟨"OneLamp$Thought", "waysFrom", "(LOneLamp$Wall;LOneLamp$Rules;II)I"⟩) ∈ g_tbl := tm_3 (List.mem_of_getElem? (i := 166) rfl) rfl
theorem mw_3_167 : (Cond.code ⟨"OneLamp$Thought", "waysFrom", "(LOneLamp$Wall;LOneLamp$Rules;II)I"⟩ prog_10_method_6_code 5 (Option.some .int)) ∈ g_tbl := tm_3 (List.mem_of_getElem? (i := 167) rfl) rfl
theorem mw_3_168 : (Cond.methodLink "OneLamp$Thought" 51 ⟨"OneLamp$Thought", "countWays", "(LOneLamp$Thought;LOneLamp$Rules;II)I"⟩) ∈ g_tbl := tm_3 (List.mem_of_getElem? (i := 168) rfl) rfl
theorem mw_3_169 : (Cond.static ⟨"OneLamp$Thought", "countWays", "(LOneLamp$Thought;LOneLamp$Rules;II)I"⟩) ∈ g_tbl := tm_3 (List.mem_of_getElem? (i := 169) rfl) rfl
theorem mw_3_170 : (Cond.code ⟨"OneLamp$Thought", "countWays", "(LOneLamp$Thought;LOneLamp$Rules;II)I"⟩ prog_10_method_18_code 8 (Option.some .int)) ∈ g_tbl := tm_3 (List.mem_of_getElem? (i := 170) rfl) rfl
theorem mw_3_171 : (Cond.methodLink "OneLampLaw" 85 ⟨"OneLamp", "judge", "(I)I"⟩) ∈ g_tbl := tm_3 (List.mem_of_getElem? (i := 171) rfl) rfl
theorem mw_3_172 : (Cond.instanceMethod ⟨"OneLamp", "judge", "(I)I"⟩) ∈ g_tbl := tm_3 (List.mem_of_getElem? (i := 172) rfl) rfl
theorem mw_3_173 : (Cond.selects "OneLamp" ⟨"OneLamp", "judge", "(I)I"⟩ ⟨"OneLamp", "judge", "(I)I"⟩) ∈ g_tbl := tm_3 (List.mem_of_getElem? (i := 173) rfl) rfl
theorem mw_3_174 : (Cond.code ⟨"OneLamp", "judge", "(I)I"⟩ prog_1_method_19_code 3 (Option.some .int)) ∈ g_tbl := tm_3 (List.mem_of_getElem? (i := 174) rfl) rfl
theorem mw_3_175 : (Cond.methodLink "OneLamp" 197 ⟨"OneLamp$Thought", "firstWrong", "(LOneLamp$Wall;LOneLamp$Rules;LOneLamp$Shelf;)I"⟩) ∈ g_tbl := tm_3 (List.mem_of_getElem? (i := 175) rfl) rfl
theorem mw_3_176 : (Cond.instanceMethod ⟨"OneLamp$Thought", "firstWrong", "(LOneLamp$Wall;LOneLamp$Rules;LOneLamp$Shelf;)I"⟩) ∈ g_tbl := tm_3 (List.mem_of_getElem? (i := 176) rfl) rfl
theorem mw_3_177 : (Cond.selects "OneLamp$Thought" ⟨"OneLamp$Thought", "firstWrong", "(LOneLamp$Wall;LOneLamp$Rules;LOneLamp$Shelf;)I"⟩ ⟨"OneLamp$Thought", "firstWrong", "(LOneLamp$Wall;LOneLamp$Rules;LOneLamp$Shelf;)I"⟩) ∈ g_tbl := tm_3 (List.mem_of_getElem? (i := 177) rfl) rfl
theorem mw_3_178 : (Cond.code ⟨"OneLamp$Thought", "firstWrong", "(LOneLamp$Wall;LOneLamp$Rules;LOneLamp$Shelf;)I"⟩ prog_10_method_7_code 7 (Option.some .int)) ∈ g_tbl := tm_3 (List.mem_of_getElem? (i := 178) rfl) rfl
theorem mw_3_179 : (Cond.methodLink "OneLamp$Thought" 60 ⟨"OneLamp$Shelf", "elementAt", "(I)J"⟩) ∈ g_tbl := tm_3 (List.mem_of_getElem? (i := 179) rfl) rfl
theorem mw_3_180 : (Cond.methodLink "OneLamp$Thought" 74 ⟨"OneLamp$Wall", "startAt", "(I)V"⟩) ∈ g_tbl := tm_3 (List.mem_of_getElem? (i := 180) rfl) rfl
theorem mw_3_181 : (Cond.methodLink "OneLamp$Thought" 78 ⟨"OneLamp$Thought", "lampUnlike", "(I)I"⟩) ∈ g_tbl := tm_3 (List.mem_of_getElem? (i := 181) rfl) rfl
theorem mw_3_183 : (Cond.instanceMethod ⟨"OneLamp$Thought", "lampUnlike", "(I)I"⟩) ∈ g_tbl := tm_3 (List.mem_of_getElem? (i := 183) rfl) rfl
theorem mw_3_184 : (Cond.code ⟨"OneLamp$Thought", "lampUnlike", "(I)I"⟩ prog_10_method_10_code 3 (Option.some .int)) ∈ g_tbl := tm_3 (List.mem_of_getElem? (i := 184) rfl) rfl
theorem mw_3_185 : (Cond.methodLink "OneLampLaw" 91 ⟨"OneLamp", "mirror", "(JI)J"⟩) ∈ g_tbl := tm_3 (List.mem_of_getElem? (i := 185) rfl) rfl
theorem mw_3_186 : (Cond.instanceMethod ⟨"OneLamp", "mirror", "(JI)J"⟩) ∈ g_tbl := tm_3 (List.mem_of_getElem? (i := 186) rfl) rfl
theorem mw_3_187 : (Cond.selects "OneLamp" ⟨"OneLamp", "mirror", "(JI)J"⟩ ⟨"OneLamp", "mirror", "(JI)J"⟩) ∈ g_tbl := tm_3 (List.mem_of_getElem? (i := 187) rfl) rfl
theorem mw_3_188 : (Cond.code ⟨"OneLamp", "mirror", "(JI)J"⟩ prog_1_method_20_code 4 (Option.some .long)) ∈ g_tbl := tm_3 (List.mem_of_getElem? (i := 188) rfl) rfl
theorem mw_3_189 : (Cond.constantLong "OneLamp" 201 4611686018427387904) ∈ g_tbl := tm_3 (List.mem_of_getElem? (i := 189) rfl) rfl
theorem mw_3_190 : (Cond.constantLong "OneLamp" 203 (-1)) ∈ g_tbl := tm_3 (List.mem_of_getElem? (i := 190) rfl) rfl
theorem mw_3_191 : (Cond.methodLink "OneLamp" 205 ⟨"OneLamp", "nightOf", "(J)J"⟩) ∈ g_tbl := tm_3 (List.mem_of_getElem? (i := 191) rfl) rfl
theorem mw_3_192 : (Cond.static ⟨"OneLamp", "nightOf", "(J)J"⟩) ∈ g_tbl := tm_3 (List.mem_of_getElem? (i := 192) rfl) rfl
theorem mw_3_193 : (Cond.code ⟨"OneLamp", "nightOf", "(J)J"⟩ prog_1_method_39_code 5 (Option.some .long)) ∈ g_tbl := tm_3 (List.mem_of_getElem? (i := 193) rfl) rfl
theorem mw_3_194 : (Cond.methodLink "OneLamp" 209 ⟨"OneLamp", "lampOf", "(J)I"⟩) ∈ g_tbl := tm_3 (List.mem_of_getElem? (i := 194) rfl) rfl
theorem mw_3_195 : (Cond.static ⟨"OneLamp", "lampOf", "(J)I"⟩) ∈ g_tbl := tm_3 (List.mem_of_getElem? (i := 195) rfl) rfl
theorem mw_3_196 : (Cond.code ⟨"OneLamp", "lampOf", "(J)I"⟩ prog_1_method_40_code 3 (Option.some .int)) ∈ g_tbl := tm_3 (List.mem_of_getElem? (i := 196) rfl) rfl
theorem mw_3_197 : (Cond.methodLink "OneLampLaw" 96 ⟨"OneLamp", "several", "(IJ)I"⟩) ∈ g_tbl := tm_3 (List.mem_of_getElem? (i := 197) rfl) rfl
theorem mw_3_198 : (Cond.instanceMethod ⟨"OneLamp", "several", "(IJ)I"⟩) ∈ g_tbl := tm_3 (List.mem_of_getElem? (i := 198) rfl) rfl
theorem mw_3_199 : (Cond.selects "OneLamp" ⟨"OneLamp", "several", "(IJ)I"⟩ ⟨"OneLamp", "several", "(IJ)I"⟩) ∈ g_tbl := tm_3 (List.mem_of_getElem? (i := 199) rfl) rfl
theorem mw_3_200 : (Cond.code ⟨"OneLamp", "several", "(IJ)I"⟩ prog_1_method_21_code 9 (Option.some .int)) ∈ g_tbl := tm_3 (List.mem_of_getElem? (i := 200) rfl) rfl
theorem mw_3_201 : (Cond.methodLink "OneLampLaw" 101 ⟨"OneLamp", "through", "(III)I"⟩) ∈ g_tbl := tm_3 (List.mem_of_getElem? (i := 201) rfl) rfl
theorem mw_3_202 : (Cond.instanceMethod ⟨"OneLamp", "through", "(III)I"⟩) ∈ g_tbl := tm_3 (List.mem_of_getElem? (i := 202) rfl) rfl
theorem mw_3_203 : (Cond.selects "OneLamp" ⟨"OneLamp", "through", "(III)I"⟩ ⟨"OneLamp", "through", "(III)I"⟩) ∈ g_tbl := tm_3 (List.mem_of_getElem? (i := 203) rfl) rfl
theorem mw_3_204 : (Cond.code ⟨"OneLamp", "through", "(III)I"⟩ prog_1_method_22_code 5 (Option.some .int)) ∈ g_tbl := tm_3 (List.mem_of_getElem? (i := 204) rfl) rfl
theorem mw_3_205 : (Cond.methodLink "OneLamp" 213 ⟨"java/lang/Integer", "bitCount", "(I)I"⟩) ∈ g_tbl := tm_3 (List.mem_of_getElem? (i := 205) rfl) rfl
theorem mw_3_206 : (Cond.methodLink "OneLamp" 218 ⟨"OneLamp$Thought", "lampThrough", "(IIII)I"⟩) ∈ g_tbl := tm_3 (List.mem_of_getElem? (i := 206) rfl) rfl
theorem mw_3_207 : (Cond.instanceMethod ⟨"OneLamp$Thought", "lampThrough", "(IIII)I"⟩) ∈ g_tbl := tm_3 (List.mem_of_getElem? (i := 207) rfl) rfl
theorem mw_3_208 : (Cond.selects "OneLamp$Thought" ⟨"OneLamp$Thought", "lampThrough", "(IIII)I"⟩ ⟨"OneLamp$Thought", "lampThrough", "(IIII)I"⟩) ∈ g_tbl := tm_3 (List.mem_of_getElem? (i := 208) rfl) rfl
theorem mw_3_209 : (Cond.code ⟨"OneLamp$Thought", "lampThrough", "(IIII)I"⟩ prog_10_method_8_code 5 (Option.some .int)) ∈ g_tbl := tm_3 (List.mem_of_getElem? (i := 209) rfl) rfl
theorem mw_3_210 : (Cond.methodLink "OneLamp$Thought" 91 ⟨"OneLamp$Thought", "seekThrough", "(LOneLamp$Thought;IIII)Z"⟩) ∈ g_tbl := tm_3 (List.mem_of_getElem? (i := 210) rfl) rfl
theorem mw_3_211 : (Cond.static ⟨"OneLamp$Thought", "seekThrough", "(LOneLamp$Thought;IIII)Z"⟩) ∈ g_tbl := tm_3 (List.mem_of_getElem? (i := 211) rfl) rfl
theorem mw_3_212 : (Cond.code ⟨"OneLamp$Thought", "seekThrough", "(LOneLamp$Thought;IIII)Z"⟩ prog_10_method_19_code 8 (Option.some .boolean)) ∈ g_tbl := tm_3 (List.mem_of_getElem? (i := 212) rfl) rfl
theorem mw_3_213 : (Cond.methodLink "OneLampLaw" 105 ⟨"OneLamp", "image", "()I"⟩) ∈ g_tbl := tm_3 (List.mem_of_getElem? (i := 213) rfl) rfl
theorem mw_3_214 : (Cond.instanceMethod ⟨"OneLamp", "image", "()I"⟩) ∈ g_tbl := tm_3 (List.mem_of_getElem? (i := 214) rfl) rfl
theorem mw_3_215 : (Cond.selects "OneLamp" ⟨"OneLamp", "image", "()I"⟩ ⟨"OneLamp", "image", "()I"⟩) ∈ g_tbl := tm_3 (List.mem_of_getElem? (i := 215) rfl) rfl
theorem mw_3_216 : (Cond.code ⟨"OneLamp", "image", "()I"⟩ prog_1_method_23_code 1 (Option.some .int)) ∈ g_tbl := tm_3 (List.mem_of_getElem? (i := 216) rfl) rfl
theorem mw_3_217 : (Cond.methodLink "OneLamp" 222 ⟨"OneLamp$Wall", "become", "(LOneLamp$Wall;)V"⟩) ∈ g_tbl := tm_3 (List.mem_of_getElem? (i := 217) rfl) rfl
theorem mw_3_218 : (Cond.methodLink "OneLampLaw" 109 ⟨"OneLamp", "back", "()I"⟩) ∈ g_tbl := tm_3 (List.mem_of_getElem? (i := 218) rfl) rfl
theorem mw_3_219 : (Cond.instanceMethod ⟨"OneLamp", "back", "()I"⟩) ∈ g_tbl := tm_3 (List.mem_of_getElem? (i := 219) rfl) rfl
theorem mw_3_220 : (Cond.selects "OneLamp" ⟨"OneLamp", "back", "()I"⟩ ⟨"OneLamp", "back", "()I"⟩) ∈ g_tbl := tm_3 (List.mem_of_getElem? (i := 220) rfl) rfl
theorem mw_3_221 : (Cond.code ⟨"OneLamp", "back", "()I"⟩ prog_1_method_24_code 1 (Option.some .int)) ∈ g_tbl := tm_3 (List.mem_of_getElem? (i := 221) rfl) rfl
theorem mw_3_222 : (Cond.methodLink "OneLampLaw" 113 ⟨"OneLamp", "undo", "()I"⟩) ∈ g_tbl := tm_3 (List.mem_of_getElem? (i := 222) rfl) rfl
theorem mw_3_223 : (Cond.instanceMethod ⟨"OneLamp", "undo", "()I"⟩) ∈ g_tbl := tm_3 (List.mem_of_getElem? (i := 223) rfl) rfl
theorem mw_3_224 : (Cond.selects "OneLamp" ⟨"OneLamp", "undo", "()I"⟩ ⟨"OneLamp", "undo", "()I"⟩) ∈ g_tbl := tm_3 (List.mem_of_getElem? (i := 224) rfl) rfl
theorem mw_3_225 : (Cond.code ⟨"OneLamp", "undo", "()I"⟩ prog_1_method_25_code 1 (Option.some .int)) ∈ g_tbl := tm_3 (List.mem_of_getElem? (i := 225) rfl) rfl
theorem mw_3_226 : (Cond.methodLink "OneLamp" 230 ⟨"OneLamp$Costs", "takeBack", "()Z"⟩) ∈ g_tbl := tm_3 (List.mem_of_getElem? (i := 226) rfl) rfl
theorem mw_3_227 : (Cond.instanceMethod ⟨"OneLamp$Costs", "takeBack", "()Z"⟩) ∈ g_tbl := tm_3 (List.mem_of_getElem? (i := 227) rfl) rfl
theorem mw_3_228 : (Cond.selects "OneLamp$Costs" ⟨"OneLamp$Costs", "takeBack", "()Z"⟩ ⟨"OneLamp$Costs", "takeBack", "()Z"⟩) ∈ g_tbl := tm_3 (List.mem_of_getElem? (i := 228) rfl) rfl
theorem mw_3_229 : (Cond.code ⟨"OneLamp$Costs", "takeBack", "()Z"⟩ prog_3_method_6_code 1 (Option.some .boolean)) ∈ g_tbl := tm_3 (List.mem_of_getElem? (i := 229) rfl) rfl
theorem mw_3_230 : (Cond.methodLink "OneLampLaw" 117 ⟨"OneLamp", "redo", "()I"⟩) ∈ g_tbl := tm_3 (List.mem_of_getElem? (i := 230) rfl) rfl
theorem mw_3_231 : (Cond.instanceMethod ⟨"OneLamp", "redo", "()I"⟩) ∈ g_tbl := tm_3 (List.mem_of_getElem? (i := 231) rfl) rfl
theorem mw_3_232 : (Cond.selects "OneLamp" ⟨"OneLamp", "redo", "()I"⟩ ⟨"OneLamp", "redo", "()I"⟩) ∈ g_tbl := tm_3 (List.mem_of_getElem? (i := 232) rfl) rfl
theorem mw_3_233 : (Cond.code ⟨"OneLamp", "redo", "()I"⟩ prog_1_method_26_code 1 (Option.some .int)) ∈ g_tbl := tm_3 (List.mem_of_getElem? (i := 233) rfl) rfl
theorem mw_3_234 : (Cond.methodLink "OneLamp" 236 ⟨"OneLamp$Costs", "doAgain", "()Z"⟩) ∈ g_tbl := tm_3 (List.mem_of_getElem? (i := 234) rfl) rfl
theorem mw_3_235 : (Cond.instanceMethod ⟨"OneLamp$Costs", "doAgain", "()Z"⟩) ∈ g_tbl := tm_3 (List.mem_of_getElem? (i := 235) rfl) rfl
theorem mw_3_236 : (Cond.selects "OneLamp$Costs" ⟨"OneLamp$Costs", "doAgain", "()Z"⟩ ⟨"OneLamp$Costs", "doAgain", "()Z"⟩) ∈ g_tbl := tm_3 (List.mem_of_getElem? (i := 236) rfl) rfl
theorem mw_3_237 : (Cond.code ⟨"OneLamp$Costs", "doAgain", "()Z"⟩ prog_3_method_7_code 1 (Option.some .boolean)) ∈ g_tbl := tm_3 (List.mem_of_getElem? (i := 237) rfl) rfl
theorem mw_3_238 : (Cond.methodLink "OneLampLaw" 121 ⟨"OneLamp", "body", "(I)I"⟩) ∈ g_tbl := tm_3 (List.mem_of_getElem? (i := 238) rfl) rfl
theorem mw_3_239 : (Cond.instanceMethod ⟨"OneLamp", "body", "(I)I"⟩) ∈ g_tbl := tm_3 (List.mem_of_getElem? (i := 239) rfl) rfl
theorem mw_4_0 : (Cond.selects "OneLamp" ⟨"OneLamp", "body", "(I)I"⟩ ⟨"OneLamp", "body", "(I)I"⟩) ∈ g_tbl := tm_4 (List.mem_of_getElem? (i := 0) rfl) rfl
theorem mw_4_1 : (Cond.code ⟨"OneLamp", "body", "(I)I"⟩ prog_1_method_27_code 2 (Option.some .int)) ∈ g_tbl := tm_4 (List.mem_of_getElem? (i := 1) rfl) rfl
theorem mw_4_2 : (Cond.methodLink "OneLamp" 242 ⟨"OneLamp$Acts", "isKind", "(I)Z"⟩) ∈ g_tbl := tm_4 (List.mem_of_getElem? (i := 2) rfl) rfl
theorem mw_4_3 : (Cond.static ⟨"OneLamp$Acts", "isKind", "(I)Z"⟩) ∈ g_tbl := tm_4 (List.mem_of_getElem? (i := 3) rfl) rfl
theorem mw_4_4 : (Cond.code ⟨"OneLamp$Acts", "isKind", "(I)Z"⟩ prog_2_method_2_code 1 (Option.some .boolean)) ∈ g_tbl := tm_4 (List.mem_of_getElem? (i := 4) rfl) rfl
theorem mw_4_5 : (Cond.methodLink "OneLamp" 245 ⟨"OneLamp$Acts", "add", "(I)Z"⟩) ∈ g_tbl := tm_4 (List.mem_of_getElem? (i := 5) rfl) rfl
theorem mw_4_6 : (Cond.instanceMethod ⟨"OneLamp$Acts", "add", "(I)Z"⟩) ∈ g_tbl := tm_4 (List.mem_of_getElem? (i := 6) rfl) rfl
theorem mw_4_7 : (Cond.selects "OneLamp$Acts" ⟨"OneLamp$Acts", "add", "(I)Z"⟩ ⟨"OneLamp$Acts", "add", "(I)Z"⟩) ∈ g_tbl := tm_4 (List.mem_of_getElem? (i := 7) rfl) rfl
theorem mw_4_8 : (Cond.code ⟨"OneLamp$Acts", "add", "(I)Z"⟩ prog_2_method_6_code 2 (Option.some .boolean)) ∈ g_tbl := tm_4 (List.mem_of_getElem? (i := 8) rfl) rfl
theorem mw_4_9 : (Cond.methodLink "OneLampLaw" 125 ⟨"OneLamp", "act", "(III)I"⟩) ∈ g_tbl := tm_4 (List.mem_of_getElem? (i := 9) rfl) rfl
theorem mw_4_10 : (Cond.instanceMethod ⟨"OneLamp", "act", "(III)I"⟩) ∈ g_tbl := tm_4 (List.mem_of_getElem? (i := 10) rfl) rfl
theorem mw_4_11 : (Cond.selects "OneLamp" ⟨"OneLamp", "act", "(III)I"⟩ ⟨"OneLamp", "act", "(III)I"⟩) ∈ g_tbl := tm_4 (List.mem_of_getElem? (i := 11) rfl) rfl
theorem mw_4_12 : (Cond.code ⟨"OneLamp", "act", "(III)I"⟩ prog_1_method_28_code 4 (Option.some .int)) ∈ g_tbl := tm_4 (List.mem_of_getElem? (i := 12) rfl) rfl
theorem mw_4_13 : (Cond.methodLink "OneLamp" 249 ⟨"OneLamp$Acts", "perform", "(III)I"⟩) ∈ g_tbl := tm_4 (List.mem_of_getElem? (i := 13) rfl) rfl
theorem mw_4_14 : (Cond.instanceMethod ⟨"OneLamp$Acts", "perform", "(III)I"⟩) ∈ g_tbl := tm_4 (List.mem_of_getElem? (i := 14) rfl) rfl
theorem mw_4_15 : (Cond.selects "OneLamp$Acts" ⟨"OneLamp$Acts", "perform", "(III)I"⟩ ⟨"OneLamp$Acts", "perform", "(III)I"⟩) ∈ g_tbl := tm_4 (List.mem_of_getElem? (i := 15) rfl) rfl
theorem mw_4_16 : (Cond.code ⟨"OneLamp$Acts", "perform", "(III)I"⟩ prog_2_method_9_code 4 (Option.some .int)) ∈ g_tbl := tm_4 (List.mem_of_getElem? (i := 16) rfl) rfl
theorem mw_4_17 : (Cond.methodLink "OneLamp$Acts" 29 ⟨"OneLamp$Acts", "isBody", "(I)Z"⟩) ∈ g_tbl := tm_4 (List.mem_of_getElem? (i := 17) rfl) rfl
theorem mw_4_18 : (Cond.instanceMethod ⟨"OneLamp$Acts", "isBody", "(I)Z"⟩) ∈ g_tbl := tm_4 (List.mem_of_getElem? (i := 18) rfl) rfl
theorem mw_4_19 : (Cond.selects "OneLamp$Acts" ⟨"OneLamp$Acts", "isBody", "(I)Z"⟩ ⟨"OneLamp$Acts", "isBody", "(I)Z"⟩) ∈ g_tbl := tm_4 (List.mem_of_getElem? (i := 19) rfl) rfl
theorem mw_4_20 : (Cond.code ⟨"OneLamp$Acts", "isBody", "(I)Z"⟩ prog_2_method_4_code 2 (Option.some .boolean)) ∈ g_tbl := tm_4 (List.mem_of_getElem? (i := 20) rfl) rfl
theorem mw_4_21 : (Cond.methodLink "OneLamp$Acts" 41 ⟨"OneLamp$Acts", "run", "(LOneLamp$Acts;IIII)I"⟩) ∈ g_tbl := tm_4 (List.mem_of_getElem? (i := 21) rfl) rfl
theorem mw_4_22 : (Cond.static ⟨"OneLamp$Acts", "run", "(LOneLamp$Acts;IIII)I"⟩) ∈ g_tbl := tm_4 (List.mem_of_getElem? (i := 22) rfl) rfl
theorem mw_4_23 : (Cond.code ⟨"OneLamp$Acts", "run", "(LOneLamp$Acts;IIII)I"⟩ prog_2_method_13_code 10 (Option.some .int)) ∈ g_tbl := tm_4 (List.mem_of_getElem? (i := 23) rfl) rfl
theorem mw_4_24 : (Cond.methodLink "OneLamp$Acts" 52 ⟨"OneLamp$Acts", "holderOf", "(II)I"⟩) ∈ g_tbl := tm_4 (List.mem_of_getElem? (i := 24) rfl) rfl
theorem mw_4_25 : (Cond.static ⟨"OneLamp$Acts", "holderOf", "(II)I"⟩) ∈ g_tbl := tm_4 (List.mem_of_getElem? (i := 25) rfl) rfl
theorem mw_4_26 : (Cond.code ⟨"OneLamp$Acts", "holderOf", "(II)I"⟩ prog_2_method_12_code 4 (Option.some .int)) ∈ g_tbl := tm_4 (List.mem_of_getElem? (i := 26) rfl) rfl
theorem mw_4_27 : (Cond.methodLink "OneLamp$Acts" 18 ⟨"OneLamp$Acts", "isKind", "(I)Z"⟩) ∈ g_tbl := tm_4 (List.mem_of_getElem? (i := 27) rfl) rfl
theorem mw_4_28 : (Cond.methodLink "OneLamp$Acts" 48 ⟨"OneLamp$Acts", "bodyOf", "(II)I"⟩) ∈ g_tbl := tm_4 (List.mem_of_getElem? (i := 28) rfl) rfl
theorem mw_4_29 : (Cond.static ⟨"OneLamp$Acts", "bodyOf", "(II)I"⟩) ∈ g_tbl := tm_4 (List.mem_of_getElem? (i := 29) rfl) rfl
theorem mw_4_30 : (Cond.code ⟨"OneLamp$Acts", "bodyOf", "(II)I"⟩ prog_2_method_11_code 3 (Option.some .int)) ∈ g_tbl := tm_4 (List.mem_of_getElem? (i := 30) rfl) rfl
theorem mw_4_31 : (Cond.fieldLink "OneLamp$Acts" 45 "OneLamp$Acts" "BODY_OF" "[I") ∈ g_tbl := tm_4 (List.mem_of_getElem? (i := 31) rfl) rfl
theorem mw_4_33 : (Cond.fieldLink "OneLamp$Acts" 22 "OneLamp$Acts" "ABOVE" "[I") ∈ g_tbl := tm_4 (List.mem_of_getElem? (i := 33) rfl) rfl
theorem mw_4_35 : (Cond.methodLink "OneLamp$Acts" 55 ⟨"OneLamp$Acts", "kindOf", "(I)I"⟩) ∈ g_tbl := tm_4 (List.mem_of_getElem? (i := 35) rfl) rfl
theorem mw_4_36 : (Cond.instanceMethod ⟨"OneLamp$Acts", "kindOf", "(I)I"⟩) ∈ g_tbl := tm_4 (List.mem_of_getElem? (i := 36) rfl) rfl
theorem mw_4_37 : (Cond.selects "OneLamp$Acts" ⟨"OneLamp$Acts", "kindOf", "(I)I"⟩ ⟨"OneLamp$Acts", "kindOf", "(I)I"⟩) ∈ g_tbl := tm_4 (List.mem_of_getElem? (i := 37) rfl) rfl
theorem mw_4_38 : (Cond.code ⟨"OneLamp$Acts", "kindOf", "(I)I"⟩ prog_2_method_5_code 2 (Option.some .int)) ∈ g_tbl := tm_4 (List.mem_of_getElem? (i := 38) rfl) rfl
theorem mw_4_39 : (Cond.methodLink "OneLamp$Acts" 59 ⟨"OneLamp$Acts", "note", "(I)V"⟩) ∈ g_tbl := tm_4 (List.mem_of_getElem? (i := 39) rfl) rfl
theorem mw_4_41 : (Cond.instanceMethod ⟨"OneLamp$Acts", "note", "(I)V"⟩) ∈ g_tbl := tm_4 (List.mem_of_getElem? (i := 41) rfl) rfl
theorem mw_4_42 : (Cond.code ⟨"OneLamp$Acts", "note", "(I)V"⟩ prog_2_method_10_code 2 (Option.none : Option Jvm.ClassFile.FieldType)) ∈ g_tbl := tm_4 (List.mem_of_getElem? (i := 42) rfl) rfl
theorem mw_4_43 : (Cond.methodLink "OneLampLaw" 129 ⟨"OneLamp", "trace", "(I)I"⟩) ∈ g_tbl := tm_4 (List.mem_of_getElem? (i := 43) rfl) rfl
theorem mw_4_44 : (Cond.instanceMethod ⟨"OneLamp", "trace", "(I)I"⟩) ∈ g_tbl := tm_4 (List.mem_of_getElem? (i := 44) rfl) rfl
theorem mw_4_45 : (Cond.selects "OneLamp" ⟨"OneLamp", "trace", "(I)I"⟩ ⟨"OneLamp", "trace", "(I)I"⟩) ∈ g_tbl := tm_4 (List.mem_of_getElem? (i := 45) rfl) rfl
theorem mw_4_46 : (Cond.code ⟨"OneLamp", "trace", "(I)I"⟩ prog_1_method_29_code 2 (Option.some .int)) ∈ g_tbl := tm_4 (List.mem_of_getElem? (i := 46) rfl) rfl
theorem mw_4_47 : (Cond.methodLink "OneLamp" 253 ⟨"OneLamp$Acts", "isTraced", "(I)Z"⟩) ∈ g_tbl := tm_4 (List.mem_of_getElem? (i := 47) rfl) rfl
theorem mw_4_48 : (Cond.instanceMethod ⟨"OneLamp$Acts", "isTraced", "(I)Z"⟩) ∈ g_tbl := tm_4 (List.mem_of_getElem? (i := 48) rfl) rfl
theorem mw_4_49 : (Cond.selects "OneLamp$Acts" ⟨"OneLamp$Acts", "isTraced", "(I)Z"⟩ ⟨"OneLamp$Acts", "isTraced", "(I)Z"⟩) ∈ g_tbl := tm_4 (List.mem_of_getElem? (i := 49) rfl) rfl
theorem mw_4_50 : (Cond.code ⟨"OneLamp$Acts", "isTraced", "(I)Z"⟩ prog_2_method_7_code 2 (Option.some .boolean)) ∈ g_tbl := tm_4 (List.mem_of_getElem? (i := 50) rfl) rfl
theorem mw_4_51 : (Cond.methodLink "OneLamp" 256 ⟨"OneLamp$Acts", "traceAt", "(I)I"⟩) ∈ g_tbl := tm_4 (List.mem_of_getElem? (i := 51) rfl) rfl
theorem mw_4_52 : (Cond.instanceMethod ⟨"OneLamp$Acts", "traceAt", "(I)I"⟩) ∈ g_tbl := tm_4 (List.mem_of_getElem? (i := 52) rfl) rfl
theorem mw_4_53 : (Cond.selects "OneLamp$Acts" ⟨"OneLamp$Acts", "traceAt", "(I)I"⟩ ⟨"OneLamp$Acts", "traceAt", "(I)I"⟩) ∈ g_tbl := tm_4 (List.mem_of_getElem? (i := 53) rfl) rfl
theorem mw_4_54 : (Cond.code ⟨"OneLamp$Acts", "traceAt", "(I)I"⟩ prog_2_method_8_code 2 (Option.some .int)) ∈ g_tbl := tm_4 (List.mem_of_getElem? (i := 54) rfl) rfl
theorem mw_4_55 : (Cond.methodLink "OneLamp$Acts" 35 ⟨"OneLamp$Acts", "isTraced", "(I)Z"⟩) ∈ g_tbl := tm_4 (List.mem_of_getElem? (i := 55) rfl) rfl
theorem mw_4_56 : (Cond.methodLink "OneLampLaw" 133 ⟨"OneLamp", "keep", "(II)I"⟩) ∈ g_tbl := tm_4 (List.mem_of_getElem? (i := 56) rfl) rfl
theorem mw_4_57 : (Cond.instanceMethod ⟨"OneLamp", "keep", "(II)I"⟩) ∈ g_tbl := tm_4 (List.mem_of_getElem? (i := 57) rfl) rfl
theorem mw_4_58 : (Cond.selects "OneLamp" ⟨"OneLamp", "keep", "(II)I"⟩ ⟨"OneLamp", "keep", "(II)I"⟩) ∈ g_tbl := tm_4 (List.mem_of_getElem? (i := 58) rfl) rfl
theorem mw_4_59 : (Cond.code ⟨"OneLamp", "keep", "(II)I"⟩ prog_1_method_30_code 3 (Option.some .int)) ∈ g_tbl := tm_4 (List.mem_of_getElem? (i := 59) rfl) rfl
theorem mw_4_60 : (Cond.methodLink "OneLamp" 259 ⟨"OneLamp$Acts", "isBody", "(I)Z"⟩) ∈ g_tbl := tm_4 (List.mem_of_getElem? (i := 60) rfl) rfl
theorem mw_4_61 : (Cond.methodLink "OneLamp" 262 ⟨"OneLamp$Shelf", "holdNothing", "()V"⟩) ∈ g_tbl := tm_4 (List.mem_of_getElem? (i := 61) rfl) rfl
theorem mw_4_62 : (Cond.instanceMethod ⟨"OneLamp$Shelf", "holdNothing", "()V"⟩) ∈ g_tbl := tm_4 (List.mem_of_getElem? (i := 62) rfl) rfl
theorem mw_4_63 : (Cond.selects "OneLamp$Shelf" ⟨"OneLamp$Shelf", "holdNothing", "()V"⟩ ⟨"OneLamp$Shelf", "holdNothing", "()V"⟩) ∈ g_tbl := tm_4 (List.mem_of_getElem? (i := 63) rfl) rfl
theorem mw_4_64 : (Cond.code ⟨"OneLamp$Shelf", "holdNothing", "()V"⟩ prog_7_method_6_code 1 (Option.none : Option Jvm.ClassFile.FieldType)) ∈ g_tbl := tm_4 (List.mem_of_getElem? (i := 64) rfl) rfl
theorem mw_4_65 : (Cond.methodLink "OneLamp" 265 ⟨"OneLamp$Shelf", "holdBody", "(I)V"⟩) ∈ g_tbl := tm_4 (List.mem_of_getElem? (i := 65) rfl) rfl
theorem mw_4_66 : (Cond.instanceMethod ⟨"OneLamp$Shelf", "holdBody", "(I)V"⟩) ∈ g_tbl := tm_4 (List.mem_of_getElem? (i := 66) rfl) rfl
theorem mw_4_67 : (Cond.selects "OneLamp$Shelf" ⟨"OneLamp$Shelf", "holdBody", "(I)V"⟩ ⟨"OneLamp$Shelf", "holdBody", "(I)V"⟩) ∈ g_tbl := tm_4 (List.mem_of_getElem? (i := 67) rfl) rfl
theorem mw_4_68 : (Cond.code ⟨"OneLamp$Shelf", "holdBody", "(I)V"⟩ prog_7_method_7_code 2 (Option.none : Option Jvm.ClassFile.FieldType)) ∈ g_tbl := tm_4 (List.mem_of_getElem? (i := 68) rfl) rfl
theorem mw_4_69 : (Cond.methodLink "OneLampLaw" 137 ⟨"OneLamp", "row", "(III)I"⟩) ∈ g_tbl := tm_4 (List.mem_of_getElem? (i := 69) rfl) rfl
theorem mw_4_70 : (Cond.instanceMethod ⟨"OneLamp", "row", "(III)I"⟩) ∈ g_tbl := tm_4 (List.mem_of_getElem? (i := 70) rfl) rfl
theorem mw_4_71 : (Cond.selects "OneLamp" ⟨"OneLamp", "row", "(III)I"⟩ ⟨"OneLamp", "row", "(III)I"⟩) ∈ g_tbl := tm_4 (List.mem_of_getElem? (i := 71) rfl) rfl
theorem mw_4_72 : (Cond.code ⟨"OneLamp", "row", "(III)I"⟩ prog_1_method_31_code 4 (Option.some .int)) ∈ g_tbl := tm_4 (List.mem_of_getElem? (i := 72) rfl) rfl
theorem mw_4_73 : (Cond.methodLink "OneLamp" 268 ⟨"OneLamp$Shelf", "holdRow", "(II)V"⟩) ∈ g_tbl := tm_4 (List.mem_of_getElem? (i := 73) rfl) rfl
theorem mw_4_74 : (Cond.instanceMethod ⟨"OneLamp$Shelf", "holdRow", "(II)V"⟩) ∈ g_tbl := tm_4 (List.mem_of_getElem? (i := 74) rfl) rfl
theorem mw_4_75 : (Cond.selects "OneLamp$Shelf" ⟨"OneLamp$Shelf", "holdRow", "(II)V"⟩ ⟨"OneLamp$Shelf", "holdRow", "(II)V"⟩) ∈ g_tbl := tm_4 (List.mem_of_getElem? (i := 75) rfl) rfl
theorem mw_4_76 : (Cond.code ⟨"OneLamp$Shelf", "holdRow", "(II)V"⟩ prog_7_method_8_code 3 (Option.none : Option Jvm.ClassFile.FieldType)) ∈ g_tbl := tm_4 (List.mem_of_getElem? (i := 76) rfl) rfl
theorem mw_4_77 : (Cond.methodLink "OneLamp$Shelf" 28 ⟨"java/util/Arrays", "fill", "([JJ)V"⟩) ∈ g_tbl := tm_4 (List.mem_of_getElem? (i := 77) rfl) rfl
theorem mw_4_78 : (Cond.methodLink "OneLampLaw" 141 ⟨"OneLamp", "put", "(IIJ)I"⟩) ∈ g_tbl := tm_4 (List.mem_of_getElem? (i := 78) rfl) rfl
theorem mw_4_79 : (Cond.instanceMethod ⟨"OneLamp", "put", "(IIJ)I"⟩) ∈ g_tbl := tm_4 (List.mem_of_getElem? (i := 79) rfl) rfl
theorem mw_4_80 : (Cond.selects "OneLamp" ⟨"OneLamp", "put", "(IIJ)I"⟩ ⟨"OneLamp", "put", "(IIJ)I"⟩) ∈ g_tbl := tm_4 (List.mem_of_getElem? (i := 80) rfl) rfl
theorem mw_4_81 : (Cond.code ⟨"OneLamp", "put", "(IIJ)I"⟩ prog_1_method_32_code 6 (Option.some .int)) ∈ g_tbl := tm_4 (List.mem_of_getElem? (i := 81) rfl) rfl
theorem mw_4_82 : (Cond.methodLink "OneLamp" 271 ⟨"OneLamp", "elementRefusal", "(II)I"⟩) ∈ g_tbl := tm_4 (List.mem_of_getElem? (i := 82) rfl) rfl
theorem mw_4_84 : (Cond.instanceMethod ⟨"OneLamp", "elementRefusal", "(II)I"⟩) ∈ g_tbl := tm_4 (List.mem_of_getElem? (i := 84) rfl) rfl
theorem mw_4_85 : (Cond.code ⟨"OneLamp", "elementRefusal", "(II)I"⟩ prog_1_method_38_code 3 (Option.some .int)) ∈ g_tbl := tm_4 (List.mem_of_getElem? (i := 85) rfl) rfl
theorem mw_4_86 : (Cond.methodLink "OneLamp" 283 ⟨"OneLamp$Shelf", "isRow", "()Z"⟩) ∈ g_tbl := tm_4 (List.mem_of_getElem? (i := 86) rfl) rfl
theorem mw_4_87 : (Cond.instanceMethod ⟨"OneLamp$Shelf", "isRow", "()Z"⟩) ∈ g_tbl := tm_4 (List.mem_of_getElem? (i := 87) rfl) rfl
theorem mw_4_88 : (Cond.selects "OneLamp$Shelf" ⟨"OneLamp$Shelf", "isRow", "()Z"⟩ ⟨"OneLamp$Shelf", "isRow", "()Z"⟩) ∈ g_tbl := tm_4 (List.mem_of_getElem? (i := 88) rfl) rfl
theorem mw_4_89 : (Cond.code ⟨"OneLamp$Shelf", "isRow", "()Z"⟩ prog_7_method_4_code 1 (Option.some .boolean)) ∈ g_tbl := tm_4 (List.mem_of_getElem? (i := 89) rfl) rfl
theorem mw_4_90 : (Cond.methodLink "OneLamp" 275 ⟨"OneLamp$Shelf", "write", "(IJ)V"⟩) ∈ g_tbl := tm_4 (List.mem_of_getElem? (i := 90) rfl) rfl
theorem mw_4_91 : (Cond.instanceMethod ⟨"OneLamp$Shelf", "write", "(IJ)V"⟩) ∈ g_tbl := tm_4 (List.mem_of_getElem? (i := 91) rfl) rfl
theorem mw_4_92 : (Cond.selects "OneLamp$Shelf" ⟨"OneLamp$Shelf", "write", "(IJ)V"⟩ ⟨"OneLamp$Shelf", "write", "(IJ)V"⟩) ∈ g_tbl := tm_4 (List.mem_of_getElem? (i := 92) rfl) rfl
theorem mw_4_93 : (Cond.code ⟨"OneLamp$Shelf", "write", "(IJ)V"⟩ prog_7_method_12_code 4 (Option.none : Option Jvm.ClassFile.FieldType)) ∈ g_tbl := tm_4 (List.mem_of_getElem? (i := 93) rfl) rfl
theorem mw_4_94 : (Cond.methodLink "OneLamp$Shelf" 38 ⟨"OneLamp$Shelf", "narrowed", "(J)J"⟩) ∈ g_tbl := tm_4 (List.mem_of_getElem? (i := 94) rfl) rfl
theorem mw_4_96 : (Cond.instanceMethod ⟨"OneLamp$Shelf", "narrowed", "(J)J"⟩) ∈ g_tbl := tm_4 (List.mem_of_getElem? (i := 96) rfl) rfl
theorem mw_4_97 : (Cond.code ⟨"OneLamp$Shelf", "narrowed", "(J)J"⟩ prog_7_method_13_code 3 (Option.some .long)) ∈ g_tbl := tm_4 (List.mem_of_getElem? (i := 97) rfl) rfl
theorem mw_4_98 : (Cond.methodLink "OneLampLaw" 146 ⟨"OneLamp", "element", "(II)J"⟩) ∈ g_tbl := tm_4 (List.mem_of_getElem? (i := 98) rfl) rfl
theorem mw_4_99 : (Cond.instanceMethod ⟨"OneLamp", "element", "(II)J"⟩) ∈ g_tbl := tm_4 (List.mem_of_getElem? (i := 99) rfl) rfl
theorem mw_4_100 : (Cond.selects "OneLamp" ⟨"OneLamp", "element", "(II)J"⟩ ⟨"OneLamp", "element", "(II)J"⟩) ∈ g_tbl := tm_4 (List.mem_of_getElem? (i := 100) rfl) rfl
theorem mw_4_101 : (Cond.code ⟨"OneLamp", "element", "(II)J"⟩ prog_1_method_33_code 3 (Option.some .long)) ∈ g_tbl := tm_4 (List.mem_of_getElem? (i := 101) rfl) rfl
theorem mw_4_102 : (Cond.constantLong "OneLamp" 281 (-9223372036854775808)) ∈ g_tbl := tm_4 (List.mem_of_getElem? (i := 102) rfl) rfl
theorem mw_4_103 : (Cond.methodLink "OneLampLaw" 151 ⟨"OneLamp", "shift", "(IIIII)I"⟩) ∈ g_tbl := tm_4 (List.mem_of_getElem? (i := 103) rfl) rfl
theorem mw_4_104 : (Cond.instanceMethod ⟨"OneLamp", "shift", "(IIIII)I"⟩) ∈ g_tbl := tm_4 (List.mem_of_getElem? (i := 104) rfl) rfl
theorem mw_4_105 : (Cond.selects "OneLamp" ⟨"OneLamp", "shift", "(IIIII)I"⟩ ⟨"OneLamp", "shift", "(IIIII)I"⟩) ∈ g_tbl := tm_4 (List.mem_of_getElem? (i := 105) rfl) rfl
theorem mw_4_106 : (Cond.code ⟨"OneLamp", "shift", "(IIIII)I"⟩ prog_1_method_34_code 8 (Option.some .int)) ∈ g_tbl := tm_4 (List.mem_of_getElem? (i := 106) rfl) rfl
theorem mw_4_107 : (Cond.methodLink "OneLamp" 289 ⟨"OneLamp$Shelf", "hasPlaces", "(II)Z"⟩) ∈ g_tbl := tm_4 (List.mem_of_getElem? (i := 107) rfl) rfl
theorem mw_4_108 : (Cond.instanceMethod ⟨"OneLamp$Shelf", "hasPlaces", "(II)Z"⟩) ∈ g_tbl := tm_4 (List.mem_of_getElem? (i := 108) rfl) rfl
theorem mw_4_109 : (Cond.selects "OneLamp$Shelf" ⟨"OneLamp$Shelf", "hasPlaces", "(II)Z"⟩ ⟨"OneLamp$Shelf", "hasPlaces", "(II)Z"⟩) ∈ g_tbl := tm_4 (List.mem_of_getElem? (i := 109) rfl) rfl
theorem mw_4_110 : (Cond.code ⟨"OneLamp$Shelf", "hasPlaces", "(II)Z"⟩ prog_7_method_10_code 3 (Option.some .boolean)) ∈ g_tbl := tm_4 (List.mem_of_getElem? (i := 110) rfl) rfl
theorem mw_4_111 : (Cond.methodLink "OneLamp" 293 ⟨"OneLamp$Shelf", "take", "(LOneLamp$Shelf;III)V"⟩) ∈ g_tbl := tm_4 (List.mem_of_getElem? (i := 111) rfl) rfl
theorem mw_4_112 : (Cond.instanceMethod ⟨"OneLamp$Shelf", "take", "(LOneLamp$Shelf;III)V"⟩) ∈ g_tbl := tm_4 (List.mem_of_getElem? (i := 112) rfl) rfl
theorem mw_4_113 : (Cond.selects "OneLamp$Shelf" ⟨"OneLamp$Shelf", "take", "(LOneLamp$Shelf;III)V"⟩ ⟨"OneLamp$Shelf", "take", "(LOneLamp$Shelf;III)V"⟩) ∈ g_tbl := tm_4 (List.mem_of_getElem? (i := 113) rfl) rfl
theorem mw_4_114 : (Cond.code ⟨"OneLamp$Shelf", "take", "(LOneLamp$Shelf;III)V"⟩ prog_7_method_14_code 5 (Option.none : Option Jvm.ClassFile.FieldType)) ∈ g_tbl := tm_4 (List.mem_of_getElem? (i := 114) rfl) rfl
theorem mw_4_115 : (Cond.methodLink "OneLamp$Shelf" 42 ⟨"OneLamp$Shelf", "hasPlaces", "(II)Z"⟩) ∈ g_tbl := tm_4 (List.mem_of_getElem? (i := 115) rfl) rfl
theorem mw_4_116 : (Cond.methodLink "OneLamp$Shelf" 46 ⟨"java/lang/System", "arraycopy", "(Ljava/lang/Object;ILjava/lang/Object;II)V"⟩) ∈ g_tbl := tm_4 (List.mem_of_getElem? (i := 116) rfl) rfl
theorem mw_4_117 : (Cond.methodLink "OneLampLaw" 156 ⟨"OneLamp", "taken", "(II)I"⟩) ∈ g_tbl := tm_4 (List.mem_of_getElem? (i := 117) rfl) rfl
theorem mw_4_118 : (Cond.instanceMethod ⟨"OneLamp", "taken", "(II)I"⟩) ∈ g_tbl := tm_4 (List.mem_of_getElem? (i := 118) rfl) rfl
theorem mw_4_119 : (Cond.selects "OneLamp" ⟨"OneLamp", "taken", "(II)I"⟩ ⟨"OneLamp", "taken", "(II)I"⟩) ∈ g_tbl := tm_4 (List.mem_of_getElem? (i := 119) rfl) rfl
theorem mw_4_120 : (Cond.code ⟨"OneLamp", "taken", "(II)I"⟩ prog_1_method_35_code 5 (Option.some .int)) ∈ g_tbl := tm_4 (List.mem_of_getElem? (i := 120) rfl) rfl
theorem mw_4_121 : (Cond.methodLink "OneLamp" 297 ⟨"OneLamp$Shelf", "isBody", "()Z"⟩) ∈ g_tbl := tm_4 (List.mem_of_getElem? (i := 121) rfl) rfl
theorem mw_4_122 : (Cond.instanceMethod ⟨"OneLamp$Shelf", "isBody", "()Z"⟩) ∈ g_tbl := tm_4 (List.mem_of_getElem? (i := 122) rfl) rfl
theorem mw_4_123 : (Cond.selects "OneLamp$Shelf" ⟨"OneLamp$Shelf", "isBody", "()Z"⟩ ⟨"OneLamp$Shelf", "isBody", "()Z"⟩) ∈ g_tbl := tm_4 (List.mem_of_getElem? (i := 123) rfl) rfl
theorem mw_4_124 : (Cond.code ⟨"OneLamp$Shelf", "isBody", "()Z"⟩ prog_7_method_3_code 1 (Option.some .boolean)) ∈ g_tbl := tm_4 (List.mem_of_getElem? (i := 124) rfl) rfl
theorem mw_4_125 : (Cond.methodLink "OneLamp" 302 ⟨"OneLamp$Acts", "kindOf", "(I)I"⟩) ∈ g_tbl := tm_4 (List.mem_of_getElem? (i := 125) rfl) rfl
theorem mw_4_126 : (Cond.methodLink "OneLamp" 305 ⟨"OneLamp$Acts", "isUnder", "(II)Z"⟩) ∈ g_tbl := tm_4 (List.mem_of_getElem? (i := 126) rfl) rfl
theorem mw_4_127 : (Cond.static ⟨"OneLamp$Acts", "isUnder", "(II)Z"⟩) ∈ g_tbl := tm_4 (List.mem_of_getElem? (i := 127) rfl) rfl
theorem mw_4_128 : (Cond.code ⟨"OneLamp$Acts", "isUnder", "(II)Z"⟩ prog_2_method_3_code 4 (Option.some .boolean)) ∈ g_tbl := tm_4 (List.mem_of_getElem? (i := 128) rfl) rfl
theorem mw_4_129 : (Cond.methodLink "OneLampLaw" 160 ⟨"OneLamp", "count", "(I)I"⟩) ∈ g_tbl := tm_4 (List.mem_of_getElem? (i := 129) rfl) rfl
theorem mw_4_130 : (Cond.instanceMethod ⟨"OneLamp", "count", "(I)I"⟩) ∈ g_tbl := tm_4 (List.mem_of_getElem? (i := 130) rfl) rfl
theorem mw_4_131 : (Cond.selects "OneLamp" ⟨"OneLamp", "count", "(I)I"⟩ ⟨"OneLamp", "count", "(I)I"⟩) ∈ g_tbl := tm_4 (List.mem_of_getElem? (i := 131) rfl) rfl
theorem mw_4_132 : (Cond.code ⟨"OneLamp", "count", "(I)I"⟩ prog_1_method_36_code 2 (Option.some .int)) ∈ g_tbl := tm_4 (List.mem_of_getElem? (i := 132) rfl) rfl
theorem mw_4_133 : (Cond.classLink "OneLampLaw" 10 "OneLampModel") ∈ g_tbl := tm_4 (List.mem_of_getElem? (i := 133) rfl) rfl
theorem mw_4_134 : (Cond.instantiable "OneLampModel" 58) ∈ g_tbl := tm_4 (List.mem_of_getElem? (i := 134) rfl) rfl
theorem mw_4_135 : (Cond.methodLink "OneLampLaw" 12 ⟨"OneLampModel", "<init>", "()V"⟩) ∈ g_tbl := tm_4 (List.mem_of_getElem? (i := 135) rfl) rfl
theorem mw_4_136 : (Cond.instanceMethod ⟨"OneLampModel", "<init>", "()V"⟩) ∈ g_tbl := tm_4 (List.mem_of_getElem? (i := 136) rfl) rfl
theorem mw_4_137 : (Cond.code ⟨"OneLampModel", "<init>", "()V"⟩ prog_13_method_1_code 1 (Option.none : Option Jvm.ClassFile.FieldType)) ∈ g_tbl := tm_4 (List.mem_of_getElem? (i := 137) rfl) rfl
theorem mw_4_138 : (Cond.methodLink "OneLampModel" 1 ⟨"java/lang/Object", "<init>", "()V"⟩) ∈ g_tbl := tm_4 (List.mem_of_getElem? (i := 138) rfl) rfl
theorem mw_4_139 : (Cond.fieldLink "OneLampModel" 7 "OneLampModel" "lamps" "I") ∈ g_tbl := tm_4 (List.mem_of_getElem? (i := 139) rfl) rfl
theorem mw_4_140 : (Cond.fieldLink "OneLampModel" 125 "OneLampModel" "at" "I") ∈ g_tbl := tm_4 (List.mem_of_getElem? (i := 140) rfl) rfl
theorem mw_4_141 : (Cond.fieldLink "OneLampModel" 128 "OneLampModel" "night" "I") ∈ g_tbl := tm_4 (List.mem_of_getElem? (i := 141) rfl) rfl
theorem mw_4_142 : (Cond.fieldLink "OneLampModel" 131 "OneLampModel" "spent" "I") ∈ g_tbl := tm_4 (List.mem_of_getElem? (i := 142) rfl) rfl
theorem mw_4_143 : (Cond.fieldLink "OneLampModel" 149 "OneLampModel" "rest" "I") ∈ g_tbl := tm_4 (List.mem_of_getElem? (i := 143) rfl) rfl
theorem mw_4_144 : (Cond.fieldLink "OneLampModel" 152 "OneLampModel" "shy" "I") ∈ g_tbl := tm_4 (List.mem_of_getElem? (i := 144) rfl) rfl
theorem mw_4_145 : (Cond.fieldLink "OneLampModel" 13 "OneLampModel" "had" "[Z") ∈ g_tbl := tm_4 (List.mem_of_getElem? (i := 145) rfl) rfl
theorem mw_4_146 : (Cond.fieldLink "OneLampModel" 17 "OneLampModel" "told" "[Z") ∈ g_tbl := tm_4 (List.mem_of_getElem? (i := 146) rfl) rfl
theorem mw_4_147 : (Cond.fieldLink "OneLampModel" 20 "OneLampModel" "barred" "[Z") ∈ g_tbl := tm_4 (List.mem_of_getElem? (i := 147) rfl) rfl
theorem mw_4_148 : (Cond.fieldLink "OneLampModel" 23 "OneLampModel" "cost" "[I") ∈ g_tbl := tm_4 (List.mem_of_getElem? (i := 148) rfl) rfl
theorem mw_4_149 : (Cond.fieldLink "OneLampModel" 27 "OneLampModel" "last" "[I") ∈ g_tbl := tm_4 (List.mem_of_getElem? (i := 149) rfl) rfl
theorem mw_4_150 : (Cond.fieldLink "OneLampModel" 30 "OneLampModel" "often" "[I") ∈ g_tbl := tm_4 (List.mem_of_getElem? (i := 150) rfl) rfl
theorem mw_4_151 : (Cond.fieldLink "OneLampModel" 134 "OneLampModel" "hasBegun" "Z") ∈ g_tbl := tm_4 (List.mem_of_getElem? (i := 151) rfl) rfl
theorem mw_4_152 : (Cond.fieldLink "OneLampModel" 162 "OneLampModel" "doneMany" "I") ∈ g_tbl := tm_4 (List.mem_of_getElem? (i := 152) rfl) rfl
theorem mw_4_153 : (Cond.fieldLink "OneLampModel" 159 "OneLampModel" "undoneMany" "I") ∈ g_tbl := tm_4 (List.mem_of_getElem? (i := 153) rfl) rfl
theorem mw_4_154 : (Cond.fieldLink "OneLampModel" 33 "OneLampModel" "changeOf" "[I") ∈ g_tbl := tm_4 (List.mem_of_getElem? (i := 154) rfl) rfl
theorem mw_4_155 : (Cond.fieldLink "OneLampModel" 36 "OneLampModel" "changeAt" "[I") ∈ g_tbl := tm_4 (List.mem_of_getElem? (i := 155) rfl) rfl
theorem mw_4_156 : (Cond.fieldLink "OneLampModel" 39 "OneLampModel" "before" "[I") ∈ g_tbl := tm_4 (List.mem_of_getElem? (i := 156) rfl) rfl
theorem mw_4_157 : (Cond.fieldLink "OneLampModel" 42 "OneLampModel" "behind" "[I") ∈ g_tbl := tm_4 (List.mem_of_getElem? (i := 157) rfl) rfl
theorem mw_4_158 : (Cond.fieldLink "OneLampModel" 45 "OneLampModel" "tape" "[B") ∈ g_tbl := tm_4 (List.mem_of_getElem? (i := 158) rfl) rfl
theorem mw_4_159 : (Cond.fieldLink "OneLampModel" 182 "OneLampModel" "taped" "I") ∈ g_tbl := tm_4 (List.mem_of_getElem? (i := 159) rfl) rfl
theorem mw_4_160 : (Cond.fieldLink "OneLampModel" 185 "OneLampModel" "here" "I") ∈ g_tbl := tm_4 (List.mem_of_getElem? (i := 160) rfl) rfl
theorem mw_4_161 : (Cond.fieldLink "OneLampModel" 188 "OneLampModel" "fault" "I") ∈ g_tbl := tm_4 (List.mem_of_getElem? (i := 161) rfl) rfl
theorem mw_4_162 : (Cond.fieldLink "OneLampModel" 194 "OneLampModel" "open" "I") ∈ g_tbl := tm_4 (List.mem_of_getElem? (i := 162) rfl) rfl
theorem mw_4_163 : (Cond.fieldLink "OneLampModel" 191 "OneLampModel" "laid" "I") ∈ g_tbl := tm_4 (List.mem_of_getElem? (i := 163) rfl) rfl
theorem mw_4_164 : (Cond.fieldLink "OneLampModel" 49 "OneLampModel" "act" "[B") ∈ g_tbl := tm_4 (List.mem_of_getElem? (i := 164) rfl) rfl
theorem mw_4_165 : (Cond.fieldLink "OneLampModel" 52 "OneLampModel" "with" "[I") ∈ g_tbl := tm_4 (List.mem_of_getElem? (i := 165) rfl) rfl
theorem mw_4_166 : (Cond.fieldLink "OneLampModel" 55 "OneLampModel" "lineMany" "[I") ∈ g_tbl := tm_4 (List.mem_of_getElem? (i := 166) rfl) rfl
theorem mw_4_167 : (Cond.fieldLink "OneLampModel" 58 "OneLampModel" "testEnd" "[S") ∈ g_tbl := tm_4 (List.mem_of_getElem? (i := 167) rfl) rfl
theorem mw_4_168 : (Cond.fieldLink "OneLampModel" 62 "OneLampModel" "lineEnd" "[S") ∈ g_tbl := tm_4 (List.mem_of_getElem? (i := 168) rfl) rfl
theorem mw_4_169 : (Cond.fieldLink "OneLampModel" 65 "OneLampModel" "facts" "[I") ∈ g_tbl := tm_4 (List.mem_of_getElem? (i := 169) rfl) rfl
theorem mw_4_170 : (Cond.fieldLink "OneLampModel" 68 "OneLampModel" "pile" "[I") ∈ g_tbl := tm_4 (List.mem_of_getElem? (i := 170) rfl) rfl
theorem mw_4_171 : (Cond.fieldLink "OneLampModel" 248 "OneLampModel" "hasLaw" "Z") ∈ g_tbl := tm_4 (List.mem_of_getElem? (i := 171) rfl) rfl
theorem mw_4_172 : (Cond.fieldLink "OneLampModel" 71 "OneLampModel" "way" "[I") ∈ g_tbl := tm_4 (List.mem_of_getElem? (i := 172) rfl) rfl
theorem mw_4_173 : (Cond.fieldLink "OneLampModel" 74 "OneLampModel" "bestWay" "[I") ∈ g_tbl := tm_4 (List.mem_of_getElem? (i := 173) rfl) rfl
theorem mw_4_174 : (Cond.fieldLink "OneLampModel" 275 "OneLampModel" "bestMany" "I") ∈ g_tbl := tm_4 (List.mem_of_getElem? (i := 174) rfl) rfl
theorem mw_4_175 : (Cond.fieldLink "OneLampModel" 77 "OneLampModel" "wasHad" "[Z") ∈ g_tbl := tm_4 (List.mem_of_getElem? (i := 175) rfl) rfl
theorem mw_4_176 : (Cond.fieldLink "OneLampModel" 80 "OneLampModel" "wasLast" "[I") ∈ g_tbl := tm_4 (List.mem_of_getElem? (i := 176) rfl) rfl
theorem mw_4_177 : (Cond.fieldLink "OneLampModel" 293 "OneLampModel" "wasAt" "I") ∈ g_tbl := tm_4 (List.mem_of_getElem? (i := 177) rfl) rfl
theorem mw_4_178 : (Cond.fieldLink "OneLampModel" 296 "OneLampModel" "wasNight" "I") ∈ g_tbl := tm_4 (List.mem_of_getElem? (i := 178) rfl) rfl
theorem mw_4_179 : (Cond.fieldLink "OneLampModel" 333 "OneLampModel" "hasImage" "Z") ∈ g_tbl := tm_4 (List.mem_of_getElem? (i := 179) rfl) rfl
theorem mw_4_180 : (Cond.fieldLink "OneLampModel" 336 "OneLampModel" "keptLamps" "I") ∈ g_tbl := tm_4 (List.mem_of_getElem? (i := 180) rfl) rfl
theorem mw_4_181 : (Cond.fieldLink "OneLampModel" 339 "OneLampModel" "keptAt" "I") ∈ g_tbl := tm_4 (List.mem_of_getElem? (i := 181) rfl) rfl
theorem mw_4_182 : (Cond.fieldLink "OneLampModel" 342 "OneLampModel" "keptNight" "I") ∈ g_tbl := tm_4 (List.mem_of_getElem? (i := 182) rfl) rfl
theorem mw_4_183 : (Cond.fieldLink "OneLampModel" 345 "OneLampModel" "keptSpent" "I") ∈ g_tbl := tm_4 (List.mem_of_getElem? (i := 183) rfl) rfl
theorem mw_4_184 : (Cond.fieldLink "OneLampModel" 83 "OneLampModel" "keptHad" "[Z") ∈ g_tbl := tm_4 (List.mem_of_getElem? (i := 184) rfl) rfl
theorem mw_4_185 : (Cond.fieldLink "OneLampModel" 86 "OneLampModel" "keptTold" "[Z") ∈ g_tbl := tm_4 (List.mem_of_getElem? (i := 185) rfl) rfl
theorem mw_4_186 : (Cond.fieldLink "OneLampModel" 89 "OneLampModel" "keptLast" "[I") ∈ g_tbl := tm_4 (List.mem_of_getElem? (i := 186) rfl) rfl
theorem mw_4_187 : (Cond.fieldLink "OneLampModel" 92 "OneLampModel" "keptOften" "[I") ∈ g_tbl := tm_4 (List.mem_of_getElem? (i := 187) rfl) rfl
theorem mw_4_188 : (Cond.fieldLink "OneLampModel" 348 "OneLampModel" "bodies" "I") ∈ g_tbl := tm_4 (List.mem_of_getElem? (i := 188) rfl) rfl
theorem mw_4_189 : (Cond.fieldLink "OneLampModel" 95 "OneLampModel" "kind" "[I") ∈ g_tbl := tm_4 (List.mem_of_getElem? (i := 189) rfl) rfl
theorem mw_4_190 : (Cond.fieldLink "OneLampModel" 351 "OneLampModel" "traces" "I") ∈ g_tbl := tm_4 (List.mem_of_getElem? (i := 190) rfl) rfl
theorem mw_4_191 : (Cond.fieldLink "OneLampModel" 98 "OneLampModel" "traced" "[I") ∈ g_tbl := tm_4 (List.mem_of_getElem? (i := 191) rfl) rfl
theorem mw_4_192 : (Cond.fieldLink "OneLampModel" 101 "OneLampModel" "holds" "[I") ∈ g_tbl := tm_4 (List.mem_of_getElem? (i := 192) rfl) rfl
theorem mw_4_193 : (Cond.fieldLink "OneLampModel" 104 "OneLampModel" "size" "[I") ∈ g_tbl := tm_4 (List.mem_of_getElem? (i := 193) rfl) rfl
theorem mw_4_194 : (Cond.fieldLink "OneLampModel" 107 "OneLampModel" "elements" "[J") ∈ g_tbl := tm_4 (List.mem_of_getElem? (i := 194) rfl) rfl
theorem mw_4_195 : (Cond.fieldLink "OneLampModel" 111 "OneLampModel" "shifted" "[J") ∈ g_tbl := tm_4 (List.mem_of_getElem? (i := 195) rfl) rfl
theorem mw_4_196 : (Cond.lays "OneLampModel" "OneLampModel" "code" "I") ∈ g_tbl := tm_4 (List.mem_of_getElem? (i := 196) rfl) rfl
theorem mw_4_198 : (Cond.lays "OneLampModel" "OneLampModel" "lamps" "I") ∈ g_tbl := tm_4 (List.mem_of_getElem? (i := 198) rfl) rfl
theorem mw_4_200 : (Cond.lays "OneLampModel" "OneLampModel" "at" "I") ∈ g_tbl := tm_4 (List.mem_of_getElem? (i := 200) rfl) rfl
theorem mw_4_202 : (Cond.lays "OneLampModel" "OneLampModel" "night" "I") ∈ g_tbl := tm_4 (List.mem_of_getElem? (i := 202) rfl) rfl
theorem mw_4_204 : (Cond.lays "OneLampModel" "OneLampModel" "spent" "I") ∈ g_tbl := tm_4 (List.mem_of_getElem? (i := 204) rfl) rfl
theorem mw_4_206 : (Cond.lays "OneLampModel" "OneLampModel" "rest" "I") ∈ g_tbl := tm_4 (List.mem_of_getElem? (i := 206) rfl) rfl
theorem mw_4_208 : (Cond.lays "OneLampModel" "OneLampModel" "shy" "I") ∈ g_tbl := tm_4 (List.mem_of_getElem? (i := 208) rfl) rfl
theorem mw_4_210 : (Cond.laysFinal "OneLampModel" "OneLampModel" "had" "[Z") ∈ g_tbl := tm_4 (List.mem_of_getElem? (i := 210) rfl) rfl
theorem mw_4_212 : (Cond.laysFinal "OneLampModel" "OneLampModel" "told" "[Z") ∈ g_tbl := tm_4 (List.mem_of_getElem? (i := 212) rfl) rfl
theorem mw_4_214 : (Cond.laysFinal "OneLampModel" "OneLampModel" "barred" "[Z") ∈ g_tbl := tm_4 (List.mem_of_getElem? (i := 214) rfl) rfl
theorem mw_4_216 : (Cond.laysFinal "OneLampModel" "OneLampModel" "cost" "[I") ∈ g_tbl := tm_4 (List.mem_of_getElem? (i := 216) rfl) rfl
theorem mw_4_218 : (Cond.laysFinal "OneLampModel" "OneLampModel" "last" "[I") ∈ g_tbl := tm_4 (List.mem_of_getElem? (i := 218) rfl) rfl
theorem mw_4_220 : (Cond.laysFinal "OneLampModel" "OneLampModel" "often" "[I") ∈ g_tbl := tm_4 (List.mem_of_getElem? (i := 220) rfl) rfl
theorem mw_4_222 : (Cond.lays "OneLampModel" "OneLampModel" "hasBegun" "Z") ∈ g_tbl := tm_4 (List.mem_of_getElem? (i := 222) rfl) rfl
theorem mw_4_224 : (Cond.lays "OneLampModel" "OneLampModel" "doneMany" "I") ∈ g_tbl := tm_4 (List.mem_of_getElem? (i := 224) rfl) rfl
theorem mw_4_226 : (Cond.lays "OneLampModel" "OneLampModel" "undoneMany" "I") ∈ g_tbl := tm_4 (List.mem_of_getElem? (i := 226) rfl) rfl
theorem mw_4_228 : (Cond.laysFinal "OneLampModel" "OneLampModel" "changeOf" "[I") ∈ g_tbl := tm_4 (List.mem_of_getElem? (i := 228) rfl) rfl
theorem mw_4_230 : (Cond.laysFinal "OneLampModel" "OneLampModel" "changeAt" "[I") ∈ g_tbl := tm_4 (List.mem_of_getElem? (i := 230) rfl) rfl
theorem mw_4_232 : (Cond.laysFinal "OneLampModel" "OneLampModel" "before" "[I") ∈ g_tbl := tm_4 (List.mem_of_getElem? (i := 232) rfl) rfl
theorem mw_4_234 : (Cond.laysFinal "OneLampModel" "OneLampModel" "behind" "[I") ∈ g_tbl := tm_4 (List.mem_of_getElem? (i := 234) rfl) rfl
theorem mw_4_236 : (Cond.laysFinal "OneLampModel" "OneLampModel" "tape" "[B") ∈ g_tbl := tm_4 (List.mem_of_getElem? (i := 236) rfl) rfl
theorem mw_4_238 : (Cond.lays "OneLampModel" "OneLampModel" "taped" "I") ∈ g_tbl := tm_4 (List.mem_of_getElem? (i := 238) rfl) rfl
theorem mw_5_0 : (Cond.lays "OneLampModel" "OneLampModel" "here" "I") ∈ g_tbl := tm_5 (List.mem_of_getElem? (i := 0) rfl) rfl
theorem mw_5_2 : (Cond.lays "OneLampModel" "OneLampModel" "fault" "I") ∈ g_tbl := tm_5 (List.mem_of_getElem? (i := 2) rfl) rfl
theorem mw_5_4 : (Cond.lays "OneLampModel" "OneLampModel" "open" "I") ∈ g_tbl := tm_5 (List.mem_of_getElem? (i := 4) rfl) rfl
theorem mw_5_6 : (Cond.lays "OneLampModel" "OneLampModel" "laid" "I") ∈ g_tbl := tm_5 (List.mem_of_getElem? (i := 6) rfl) rfl
theorem mw_5_8 : (Cond.laysFinal "OneLampModel" "OneLampModel" "act" "[B") ∈ g_tbl := tm_5 (List.mem_of_getElem? (i := 8) rfl) rfl
theorem mw_5_10 : (Cond.laysFinal "OneLampModel" "OneLampModel" "with" "[I") ∈ g_tbl := tm_5 (List.mem_of_getElem? (i := 10) rfl) rfl
theorem mw_5_12 : (Cond.laysFinal "OneLampModel" "OneLampModel" "lineMany" "[I") ∈ g_tbl := tm_5 (List.mem_of_getElem? (i := 12) rfl) rfl
theorem mw_5_14 : (Cond.laysFinal "OneLampModel" "OneLampModel" "testEnd" "[S") ∈ g_tbl := tm_5 (List.mem_of_getElem? (i := 14) rfl) rfl
theorem mw_5_16 : (Cond.laysFinal "OneLampModel" "OneLampModel" "lineEnd" "[S") ∈ g_tbl := tm_5 (List.mem_of_getElem? (i := 16) rfl) rfl
theorem mw_5_18 : (Cond.laysFinal "OneLampModel" "OneLampModel" "facts" "[I") ∈ g_tbl := tm_5 (List.mem_of_getElem? (i := 18) rfl) rfl
theorem mw_5_20 : (Cond.laysFinal "OneLampModel" "OneLampModel" "pile" "[I") ∈ g_tbl := tm_5 (List.mem_of_getElem? (i := 20) rfl) rfl
theorem mw_5_22 : (Cond.lays "OneLampModel" "OneLampModel" "hasLaw" "Z") ∈ g_tbl := tm_5 (List.mem_of_getElem? (i := 22) rfl) rfl
theorem mw_5_24 : (Cond.laysFinal "OneLampModel" "OneLampModel" "way" "[I") ∈ g_tbl := tm_5 (List.mem_of_getElem? (i := 24) rfl) rfl
theorem mw_5_26 : (Cond.laysFinal "OneLampModel" "OneLampModel" "bestWay" "[I") ∈ g_tbl := tm_5 (List.mem_of_getElem? (i := 26) rfl) rfl
theorem mw_5_28 : (Cond.lays "OneLampModel" "OneLampModel" "bestMany" "I") ∈ g_tbl := tm_5 (List.mem_of_getElem? (i := 28) rfl) rfl
theorem mw_5_30 : (Cond.laysFinal "OneLampModel" "OneLampModel" "wasHad" "[Z") ∈ g_tbl := tm_5 (List.mem_of_getElem? (i := 30) rfl) rfl
theorem mw_5_32 : (Cond.laysFinal "OneLampModel" "OneLampModel" "wasLast" "[I") ∈ g_tbl := tm_5 (List.mem_of_getElem? (i := 32) rfl) rfl
theorem mw_5_34 : (Cond.lays "OneLampModel" "OneLampModel" "wasAt" "I") ∈ g_tbl := tm_5 (List.mem_of_getElem? (i := 34) rfl) rfl
theorem mw_5_36 : (Cond.lays "OneLampModel" "OneLampModel" "wasNight" "I") ∈ g_tbl := tm_5 (List.mem_of_getElem? (i := 36) rfl) rfl
theorem mw_5_38 : (Cond.lays "OneLampModel" "OneLampModel" "hasImage" "Z") ∈ g_tbl := tm_5 (List.mem_of_getElem? (i := 38) rfl) rfl
theorem mw_5_40 : (Cond.lays "OneLampModel" "OneLampModel" "keptLamps" "I") ∈ g_tbl := tm_5 (List.mem_of_getElem? (i := 40) rfl) rfl
theorem mw_5_42 : (Cond.lays "OneLampModel" "OneLampModel" "keptAt" "I") ∈ g_tbl := tm_5 (List.mem_of_getElem? (i := 42) rfl) rfl
theorem mw_5_44 : (Cond.lays "OneLampModel" "OneLampModel" "keptNight" "I") ∈ g_tbl := tm_5 (List.mem_of_getElem? (i := 44) rfl) rfl
theorem mw_5_46 : (Cond.lays "OneLampModel" "OneLampModel" "keptSpent" "I") ∈ g_tbl := tm_5 (List.mem_of_getElem? (i := 46) rfl) rfl
theorem mw_5_48 : (Cond.laysFinal "OneLampModel" "OneLampModel" "keptHad" "[Z") ∈ g_tbl := tm_5 (List.mem_of_getElem? (i := 48) rfl) rfl
theorem mw_5_50 : (Cond.laysFinal "OneLampModel" "OneLampModel" "keptTold" "[Z") ∈ g_tbl := tm_5 (List.mem_of_getElem? (i := 50) rfl) rfl
theorem mw_5_52 : (Cond.laysFinal "OneLampModel" "OneLampModel" "keptLast" "[I") ∈ g_tbl := tm_5 (List.mem_of_getElem? (i := 52) rfl) rfl
theorem mw_5_54 : (Cond.laysFinal "OneLampModel" "OneLampModel" "keptOften" "[I") ∈ g_tbl := tm_5 (List.mem_of_getElem? (i := 54) rfl) rfl
theorem mw_5_56 : (Cond.lays "OneLampModel" "OneLampModel" "bodies" "I") ∈ g_tbl := tm_5 (List.mem_of_getElem? (i := 56) rfl) rfl
theorem mw_5_58 : (Cond.laysFinal "OneLampModel" "OneLampModel" "kind" "[I") ∈ g_tbl := tm_5 (List.mem_of_getElem? (i := 58) rfl) rfl
theorem mw_5_60 : (Cond.lays "OneLampModel" "OneLampModel" "traces" "I") ∈ g_tbl := tm_5 (List.mem_of_getElem? (i := 60) rfl) rfl
theorem mw_5_62 : (Cond.laysFinal "OneLampModel" "OneLampModel" "traced" "[I") ∈ g_tbl := tm_5 (List.mem_of_getElem? (i := 62) rfl) rfl
theorem mw_5_64 : (Cond.laysFinal "OneLampModel" "OneLampModel" "holds" "[I") ∈ g_tbl := tm_5 (List.mem_of_getElem? (i := 64) rfl) rfl
theorem mw_5_66 : (Cond.laysFinal "OneLampModel" "OneLampModel" "size" "[I") ∈ g_tbl := tm_5 (List.mem_of_getElem? (i := 66) rfl) rfl
theorem mw_5_68 : (Cond.laysFinal "OneLampModel" "OneLampModel" "elements" "[J") ∈ g_tbl := tm_5 (List.mem_of_getElem? (i := 68) rfl) rfl
theorem mw_5_70 : (Cond.laysFinal "OneLampModel" "OneLampModel" "shifted" "[J") ∈ g_tbl := tm_5 (List.mem_of_getElem? (i := 70) rfl) rfl
theorem mw_5_73 : (Cond.arrayClass .boolean) ∈ g_tbl := tm_5 (List.mem_of_getElem? (i := 73) rfl) rfl
theorem mw_5_74 : (Cond.arrayClass .byte) ∈ g_tbl := tm_5 (List.mem_of_getElem? (i := 74) rfl) rfl
theorem mw_5_75 : (Cond.arrayClass .short) ∈ g_tbl := tm_5 (List.mem_of_getElem? (i := 75) rfl) rfl
theorem mw_5_76 : (Cond.methodLink "OneLampLaw" 17 ⟨"OneLampModel", "lamps", "(I)I"⟩) ∈ g_tbl := tm_5 (List.mem_of_getElem? (i := 76) rfl) rfl
theorem mw_5_77 : (Cond.instanceMethod ⟨"OneLampModel", "lamps", "(I)I"⟩) ∈ g_tbl := tm_5 (List.mem_of_getElem? (i := 77) rfl) rfl
theorem mw_5_78 : (Cond.selects "OneLampModel" ⟨"OneLampModel", "lamps", "(I)I"⟩ ⟨"OneLampModel", "lamps", "(I)I"⟩) ∈ g_tbl := tm_5 (List.mem_of_getElem? (i := 78) rfl) rfl
theorem mw_5_79 : (Cond.code ⟨"OneLampModel", "lamps", "(I)I"⟩ prog_13_method_10_code 4 (Option.some .int)) ∈ g_tbl := tm_5 (List.mem_of_getElem? (i := 79) rfl) rfl
theorem mw_5_80 : (Cond.methodLink "OneLampModel" 121 ⟨"OneLampModel", "in", "(III)Z"⟩) ∈ g_tbl := tm_5 (List.mem_of_getElem? (i := 80) rfl) rfl
theorem mw_5_81 : (Cond.static ⟨"OneLampModel", "in", "(III)Z"⟩) ∈ g_tbl := tm_5 (List.mem_of_getElem? (i := 81) rfl) rfl
theorem mw_5_82 : (Cond.code ⟨"OneLampModel", "in", "(III)Z"⟩ prog_13_method_3_code 3 (Option.some .boolean)) ∈ g_tbl := tm_5 (List.mem_of_getElem? (i := 82) rfl) rfl
theorem mw_5_83 : (Cond.methodLink "OneLampModel" 138 ⟨"OneLampModel", "beginAt", "(I)V"⟩) ∈ g_tbl := tm_5 (List.mem_of_getElem? (i := 83) rfl) rfl
theorem mw_5_85 : (Cond.instanceMethod ⟨"OneLampModel", "beginAt", "(I)V"⟩) ∈ g_tbl := tm_5 (List.mem_of_getElem? (i := 85) rfl) rfl
theorem mw_5_86 : (Cond.code ⟨"OneLampModel", "beginAt", "(I)V"⟩ prog_13_method_8_code 3 (Option.none : Option Jvm.ClassFile.FieldType)) ∈ g_tbl := tm_5 (List.mem_of_getElem? (i := 86) rfl) rfl
theorem mw_5_87 : (Cond.methodLink "OneLampLaw" 21 ⟨"OneLampModel", "begin", "(I)I"⟩) ∈ g_tbl := tm_5 (List.mem_of_getElem? (i := 87) rfl) rfl
theorem mw_5_88 : (Cond.instanceMethod ⟨"OneLampModel", "begin", "(I)I"⟩) ∈ g_tbl := tm_5 (List.mem_of_getElem? (i := 88) rfl) rfl
theorem mw_5_89 : (Cond.selects "OneLampModel" ⟨"OneLampModel", "begin", "(I)I"⟩ ⟨"OneLampModel", "begin", "(I)I"⟩) ∈ g_tbl := tm_5 (List.mem_of_getElem? (i := 89) rfl) rfl
theorem mw_5_90 : (Cond.code ⟨"OneLampModel", "begin", "(I)I"⟩ prog_13_method_11_code 2 (Option.some .int)) ∈ g_tbl := tm_5 (List.mem_of_getElem? (i := 90) rfl) rfl
theorem mw_5_91 : (Cond.methodLink "OneLampModel" 142 ⟨"OneLampModel", "isPicture", "(I)Z"⟩) ∈ g_tbl := tm_5 (List.mem_of_getElem? (i := 91) rfl) rfl
theorem mw_5_93 : (Cond.instanceMethod ⟨"OneLampModel", "isPicture", "(I)Z"⟩) ∈ g_tbl := tm_5 (List.mem_of_getElem? (i := 93) rfl) rfl
theorem mw_5_94 : (Cond.code ⟨"OneLampModel", "isPicture", "(I)Z"⟩ prog_13_method_6_code 2 (Option.some .boolean)) ∈ g_tbl := tm_5 (List.mem_of_getElem? (i := 94) rfl) rfl
theorem mw_5_95 : (Cond.methodLink "OneLampModel" 117 ⟨"OneLampModel", "pictures", "()I"⟩) ∈ g_tbl := tm_5 (List.mem_of_getElem? (i := 95) rfl) rfl
theorem mw_5_97 : (Cond.instanceMethod ⟨"OneLampModel", "pictures", "()I"⟩) ∈ g_tbl := tm_5 (List.mem_of_getElem? (i := 97) rfl) rfl
theorem mw_5_98 : (Cond.code ⟨"OneLampModel", "pictures", "()I"⟩ prog_13_method_5_code 1 (Option.some .int)) ∈ g_tbl := tm_5 (List.mem_of_getElem? (i := 98) rfl) rfl
theorem mw_5_99 : (Cond.methodLink "OneLampLaw" 25 ⟨"OneLampModel", "bar", "(I)I"⟩) ∈ g_tbl := tm_5 (List.mem_of_getElem? (i := 99) rfl) rfl
theorem mw_5_100 : (Cond.instanceMethod ⟨"OneLampModel", "bar", "(I)I"⟩) ∈ g_tbl := tm_5 (List.mem_of_getElem? (i := 100) rfl) rfl
theorem mw_5_101 : (Cond.selects "OneLampModel" ⟨"OneLampModel", "bar", "(I)I"⟩ ⟨"OneLampModel", "bar", "(I)I"⟩) ∈ g_tbl := tm_5 (List.mem_of_getElem? (i := 101) rfl) rfl
theorem mw_5_102 : (Cond.code ⟨"OneLampModel", "bar", "(I)I"⟩ prog_13_method_12_code 2 (Option.some .int)) ∈ g_tbl := tm_5 (List.mem_of_getElem? (i := 102) rfl) rfl
theorem mw_5_103 : (Cond.methodLink "OneLampLaw" 30 ⟨"OneLampModel", "bars", "(III)I"⟩) ∈ g_tbl := tm_5 (List.mem_of_getElem? (i := 103) rfl) rfl
theorem mw_5_104 : (Cond.instanceMethod ⟨"OneLampModel", "bars", "(III)I"⟩) ∈ g_tbl := tm_5 (List.mem_of_getElem? (i := 104) rfl) rfl
theorem mw_5_105 : (Cond.selects "OneLampModel" ⟨"OneLampModel", "bars", "(III)I"⟩ ⟨"OneLampModel", "bars", "(III)I"⟩) ∈ g_tbl := tm_5 (List.mem_of_getElem? (i := 105) rfl) rfl
theorem mw_5_106 : (Cond.code ⟨"OneLampModel", "bars", "(III)I"⟩ prog_13_method_13_code 8 (Option.some .int)) ∈ g_tbl := tm_5 (List.mem_of_getElem? (i := 106) rfl) rfl
theorem mw_5_107 : (Cond.methodLink "OneLampModel" 146 ⟨"OneLampModel", "isShelf", "(I)Z"⟩) ∈ g_tbl := tm_5 (List.mem_of_getElem? (i := 107) rfl) rfl
theorem mw_5_108 : (Cond.static ⟨"OneLampModel", "isShelf", "(I)Z"⟩) ∈ g_tbl := tm_5 (List.mem_of_getElem? (i := 108) rfl) rfl
theorem mw_5_109 : (Cond.code ⟨"OneLampModel", "isShelf", "(I)Z"⟩ prog_13_method_94_code 1 (Option.some .boolean)) ∈ g_tbl := tm_5 (List.mem_of_getElem? (i := 109) rfl) rfl
theorem mw_5_110 : (Cond.methodLink "OneLampLaw" 44 ⟨"OneLampModel", "set", "(II)I"⟩) ∈ g_tbl := tm_5 (List.mem_of_getElem? (i := 110) rfl) rfl
theorem mw_5_111 : (Cond.instanceMethod ⟨"OneLampModel", "set", "(II)I"⟩) ∈ g_tbl := tm_5 (List.mem_of_getElem? (i := 111) rfl) rfl
theorem mw_5_112 : (Cond.selects "OneLampModel" ⟨"OneLampModel", "set", "(II)I"⟩ ⟨"OneLampModel", "set", "(II)I"⟩) ∈ g_tbl := tm_5 (List.mem_of_getElem? (i := 112) rfl) rfl
theorem mw_5_113 : (Cond.code ⟨"OneLampModel", "set", "(II)I"⟩ prog_13_method_14_code 4 (Option.some .int)) ∈ g_tbl := tm_5 (List.mem_of_getElem? (i := 113) rfl) rfl
theorem mw_5_114 : (Cond.methodLink "OneLampLaw" 116 ⟨"OneLampModel", "undo", "()I"⟩) ∈ g_tbl := tm_5 (List.mem_of_getElem? (i := 114) rfl) rfl
theorem mw_5_115 : (Cond.instanceMethod ⟨"OneLampModel", "undo", "()I"⟩) ∈ g_tbl := tm_5 (List.mem_of_getElem? (i := 115) rfl) rfl
theorem mw_5_116 : (Cond.selects "OneLampModel" ⟨"OneLampModel", "undo", "()I"⟩ ⟨"OneLampModel", "undo", "()I"⟩) ∈ g_tbl := tm_5 (List.mem_of_getElem? (i := 116) rfl) rfl
theorem mw_5_117 : (Cond.code ⟨"OneLampModel", "undo", "()I"⟩ prog_13_method_18_code 1 (Option.some .int)) ∈ g_tbl := tm_5 (List.mem_of_getElem? (i := 117) rfl) rfl
theorem mw_5_118 : (Cond.methodLink "OneLampModel" 165 ⟨"OneLampModel", "lays", "(III)V"⟩) ∈ g_tbl := tm_5 (List.mem_of_getElem? (i := 118) rfl) rfl
theorem mw_5_120 : (Cond.instanceMethod ⟨"OneLampModel", "lays", "(III)V"⟩) ∈ g_tbl := tm_5 (List.mem_of_getElem? (i := 120) rfl) rfl
theorem mw_5_121 : (Cond.code ⟨"OneLampModel", "lays", "(III)V"⟩ prog_13_method_16_code 4 (Option.none : Option Jvm.ClassFile.FieldType)) ∈ g_tbl := tm_5 (List.mem_of_getElem? (i := 121) rfl) rfl
theorem mw_5_122 : (Cond.methodLink "OneLampLaw" 120 ⟨"OneLampModel", "redo", "()I"⟩) ∈ g_tbl := tm_5 (List.mem_of_getElem? (i := 122) rfl) rfl
theorem mw_5_123 : (Cond.instanceMethod ⟨"OneLampModel", "redo", "()I"⟩) ∈ g_tbl := tm_5 (List.mem_of_getElem? (i := 123) rfl) rfl
theorem mw_5_124 : (Cond.selects "OneLampModel" ⟨"OneLampModel", "redo", "()I"⟩ ⟨"OneLampModel", "redo", "()I"⟩) ∈ g_tbl := tm_5 (List.mem_of_getElem? (i := 124) rfl) rfl
theorem mw_5_125 : (Cond.code ⟨"OneLampModel", "redo", "()I"⟩ prog_13_method_19_code 1 (Option.some .int)) ∈ g_tbl := tm_5 (List.mem_of_getElem? (i := 125) rfl) rfl
theorem mw_5_126 : (Cond.methodLink "OneLampLaw" 48 ⟨"OneLampModel", "cost", "(II)I"⟩) ∈ g_tbl := tm_5 (List.mem_of_getElem? (i := 126) rfl) rfl
theorem mw_5_127 : (Cond.instanceMethod ⟨"OneLampModel", "cost", "(II)I"⟩) ∈ g_tbl := tm_5 (List.mem_of_getElem? (i := 127) rfl) rfl
theorem mw_5_128 : (Cond.selects "OneLampModel" ⟨"OneLampModel", "cost", "(II)I"⟩ ⟨"OneLampModel", "cost", "(II)I"⟩) ∈ g_tbl := tm_5 (List.mem_of_getElem? (i := 128) rfl) rfl
theorem mw_5_129 : (Cond.code ⟨"OneLampModel", "cost", "(II)I"⟩ prog_13_method_20_code 3 (Option.some .int)) ∈ g_tbl := tm_5 (List.mem_of_getElem? (i := 129) rfl) rfl
theorem mw_5_130 : (Cond.methodLink "OneLampModel" 169 ⟨"OneLampModel", "changes", "(III)I"⟩) ∈ g_tbl := tm_5 (List.mem_of_getElem? (i := 130) rfl) rfl
theorem mw_5_132 : (Cond.instanceMethod ⟨"OneLampModel", "changes", "(III)I"⟩) ∈ g_tbl := tm_5 (List.mem_of_getElem? (i := 132) rfl) rfl
theorem mw_5_133 : (Cond.code ⟨"OneLampModel", "changes", "(III)I"⟩ prog_13_method_17_code 6 (Option.some .int)) ∈ g_tbl := tm_5 (List.mem_of_getElem? (i := 133) rfl) rfl
theorem mw_5_134 : (Cond.methodLink "OneLampModel" 155 ⟨"OneLampModel", "valueAt", "(II)I"⟩) ∈ g_tbl := tm_5 (List.mem_of_getElem? (i := 134) rfl) rfl
theorem mw_5_136 : (Cond.instanceMethod ⟨"OneLampModel", "valueAt", "(II)I"⟩) ∈ g_tbl := tm_5 (List.mem_of_getElem? (i := 136) rfl) rfl
theorem mw_5_137 : (Cond.code ⟨"OneLampModel", "valueAt", "(II)I"⟩ prog_13_method_15_code 3 (Option.some .int)) ∈ g_tbl := tm_5 (List.mem_of_getElem? (i := 137) rfl) rfl
theorem mw_5_138 : (Cond.methodLink "OneLampLaw" 52 ⟨"OneLampModel", "now", "(I)I"⟩) ∈ g_tbl := tm_5 (List.mem_of_getElem? (i := 138) rfl) rfl
theorem mw_5_139 : (Cond.instanceMethod ⟨"OneLampModel", "now", "(I)I"⟩) ∈ g_tbl := tm_5 (List.mem_of_getElem? (i := 139) rfl) rfl
theorem mw_5_140 : (Cond.selects "OneLampModel" ⟨"OneLampModel", "now", "(I)I"⟩ ⟨"OneLampModel", "now", "(I)I"⟩) ∈ g_tbl := tm_5 (List.mem_of_getElem? (i := 140) rfl) rfl
theorem mw_5_141 : (Cond.code ⟨"OneLampModel", "now", "(I)I"⟩ prog_13_method_23_code 2 (Option.some .int)) ∈ g_tbl := tm_5 (List.mem_of_getElem? (i := 141) rfl) rfl
theorem mw_5_142 : (Cond.methodLink "OneLampModel" 173 ⟨"OneLampModel", "ready", "()V"⟩) ∈ g_tbl := tm_5 (List.mem_of_getElem? (i := 142) rfl) rfl
theorem mw_5_144 : (Cond.instanceMethod ⟨"OneLampModel", "ready", "()V"⟩) ∈ g_tbl := tm_5 (List.mem_of_getElem? (i := 144) rfl) rfl
theorem mw_5_145 : (Cond.code ⟨"OneLampModel", "ready", "()V"⟩ prog_13_method_9_code 1 (Option.none : Option Jvm.ClassFile.FieldType)) ∈ g_tbl := tm_5 (List.mem_of_getElem? (i := 145) rfl) rfl
theorem mw_5_146 : (Cond.methodLink "OneLampModel" 176 ⟨"OneLampModel", "hadMany", "()I"⟩) ∈ g_tbl := tm_5 (List.mem_of_getElem? (i := 146) rfl) rfl
theorem mw_5_148 : (Cond.instanceMethod ⟨"OneLampModel", "hadMany", "()I"⟩) ∈ g_tbl := tm_5 (List.mem_of_getElem? (i := 148) rfl) rfl
theorem mw_5_149 : (Cond.code ⟨"OneLampModel", "hadMany", "()I"⟩ prog_13_method_21_code 3 (Option.some .int)) ∈ g_tbl := tm_5 (List.mem_of_getElem? (i := 149) rfl) rfl
theorem mw_5_150 : (Cond.methodLink "OneLampModel" 179 ⟨"OneLampModel", "least", "()I"⟩) ∈ g_tbl := tm_5 (List.mem_of_getElem? (i := 150) rfl) rfl
theorem mw_5_152 : (Cond.instanceMethod ⟨"OneLampModel", "least", "()I"⟩) ∈ g_tbl := tm_5 (List.mem_of_getElem? (i := 152) rfl) rfl
theorem mw_5_153 : (Cond.code ⟨"OneLampModel", "least", "()I"⟩ prog_13_method_22_code 5 (Option.some .int)) ∈ g_tbl := tm_5 (List.mem_of_getElem? (i := 153) rfl) rfl
theorem mw_5_154 : (Cond.methodLink "OneLampLaw" 34 ⟨"OneLampModel", "feed", "(I)I"⟩) ∈ g_tbl := tm_5 (List.mem_of_getElem? (i := 154) rfl) rfl
theorem mw_5_155 : (Cond.instanceMethod ⟨"OneLampModel", "feed", "(I)I"⟩) ∈ g_tbl := tm_5 (List.mem_of_getElem? (i := 155) rfl) rfl
theorem mw_5_156 : (Cond.selects "OneLampModel" ⟨"OneLampModel", "feed", "(I)I"⟩ ⟨"OneLampModel", "feed", "(I)I"⟩) ∈ g_tbl := tm_5 (List.mem_of_getElem? (i := 156) rfl) rfl
theorem mw_5_157 : (Cond.code ⟨"OneLampModel", "feed", "(I)I"⟩ prog_13_method_24_code 2 (Option.some .int)) ∈ g_tbl := tm_5 (List.mem_of_getElem? (i := 157) rfl) rfl
theorem mw_5_158 : (Cond.methodLink "OneLampLaw" 39 ⟨"OneLampModel", "law", "()I"⟩) ∈ g_tbl := tm_5 (List.mem_of_getElem? (i := 158) rfl) rfl
theorem mw_5_159 : (Cond.instanceMethod ⟨"OneLampModel", "law", "()I"⟩) ∈ g_tbl := tm_5 (List.mem_of_getElem? (i := 159) rfl) rfl
theorem mw_5_160 : (Cond.selects "OneLampModel" ⟨"OneLampModel", "law", "()I"⟩ ⟨"OneLampModel", "law", "()I"⟩) ∈ g_tbl := tm_5 (List.mem_of_getElem? (i := 160) rfl) rfl
theorem mw_5_161 : (Cond.code ⟨"OneLampModel", "law", "()I"⟩ prog_13_method_42_code 2 (Option.some .int)) ∈ g_tbl := tm_5 (List.mem_of_getElem? (i := 161) rfl) rfl
theorem mw_5_162 : (Cond.methodLink "OneLampModel" 245 ⟨"OneLampModel", "readText", "(I)I"⟩) ∈ g_tbl := tm_5 (List.mem_of_getElem? (i := 162) rfl) rfl
theorem mw_5_164 : (Cond.instanceMethod ⟨"OneLampModel", "readText", "(I)I"⟩) ∈ g_tbl := tm_5 (List.mem_of_getElem? (i := 164) rfl) rfl
theorem mw_5_165 : (Cond.code ⟨"OneLampModel", "readText", "(I)I"⟩ prog_13_method_38_code 3 (Option.some .int)) ∈ g_tbl := tm_5 (List.mem_of_getElem? (i := 165) rfl) rfl
theorem mw_5_166 : (Cond.methodLink "OneLampModel" 236 ⟨"OneLampModel", "line", "()V"⟩) ∈ g_tbl := tm_5 (List.mem_of_getElem? (i := 166) rfl) rfl
theorem mw_5_168 : (Cond.instanceMethod ⟨"OneLampModel", "line", "()V"⟩) ∈ g_tbl := tm_5 (List.mem_of_getElem? (i := 168) rfl) rfl
theorem mw_5_169 : (Cond.code ⟨"OneLampModel", "line", "()V"⟩ prog_13_method_37_code 2 (Option.none : Option Jvm.ClassFile.FieldType)) ∈ g_tbl := tm_5 (List.mem_of_getElem? (i := 169) rfl) rfl
theorem mw_5_170 : (Cond.methodLink "OneLampModel" 218 ⟨"OneLampModel", "either", "()V"⟩) ∈ g_tbl := tm_5 (List.mem_of_getElem? (i := 170) rfl) rfl
theorem mw_5_172 : (Cond.instanceMethod ⟨"OneLampModel", "either", "()V"⟩) ∈ g_tbl := tm_5 (List.mem_of_getElem? (i := 172) rfl) rfl
theorem mw_5_173 : (Cond.code ⟨"OneLampModel", "either", "()V"⟩ prog_13_method_36_code 1 (Option.none : Option Jvm.ClassFile.FieldType)) ∈ g_tbl := tm_5 (List.mem_of_getElem? (i := 173) rfl) rfl
theorem mw_5_174 : (Cond.methodLink "OneLampModel" 233 ⟨"OneLampModel", "both", "()V"⟩) ∈ g_tbl := tm_5 (List.mem_of_getElem? (i := 174) rfl) rfl
theorem mw_5_176 : (Cond.instanceMethod ⟨"OneLampModel", "both", "()V"⟩) ∈ g_tbl := tm_5 (List.mem_of_getElem? (i := 176) rfl) rfl
theorem mw_5_177 : (Cond.code ⟨"OneLampModel", "both", "()V"⟩ prog_13_method_35_code 1 (Option.none : Option Jvm.ClassFile.FieldType)) ∈ g_tbl := tm_5 (List.mem_of_getElem? (i := 177) rfl) rfl
theorem mw_5_178 : (Cond.methodLink "OneLampModel" 230 ⟨"OneLampModel", "compared", "()V"⟩) ∈ g_tbl := tm_5 (List.mem_of_getElem? (i := 178) rfl) rfl
theorem mw_5_180 : (Cond.instanceMethod ⟨"OneLampModel", "compared", "()V"⟩) ∈ g_tbl := tm_5 (List.mem_of_getElem? (i := 180) rfl) rfl
theorem mw_5_181 : (Cond.code ⟨"OneLampModel", "compared", "()V"⟩ prog_13_method_34_code 2 (Option.none : Option Jvm.ClassFile.FieldType)) ∈ g_tbl := tm_5 (List.mem_of_getElem? (i := 181) rfl) rfl
theorem mw_5_182 : (Cond.methodLink "OneLampModel" 227 ⟨"OneLampModel", "sum", "()V"⟩) ∈ g_tbl := tm_5 (List.mem_of_getElem? (i := 182) rfl) rfl
theorem mw_5_184 : (Cond.instanceMethod ⟨"OneLampModel", "sum", "()V"⟩) ∈ g_tbl := tm_5 (List.mem_of_getElem? (i := 184) rfl) rfl
theorem mw_5_185 : (Cond.code ⟨"OneLampModel", "sum", "()V"⟩ prog_13_method_33_code 2 (Option.none : Option Jvm.ClassFile.FieldType)) ∈ g_tbl := tm_5 (List.mem_of_getElem? (i := 185) rfl) rfl
theorem mw_5_186 : (Cond.methodLink "OneLampModel" 224 ⟨"OneLampModel", "product", "()V"⟩) ∈ g_tbl := tm_5 (List.mem_of_getElem? (i := 186) rfl) rfl
theorem mw_5_188 : (Cond.instanceMethod ⟨"OneLampModel", "product", "()V"⟩) ∈ g_tbl := tm_5 (List.mem_of_getElem? (i := 188) rfl) rfl
theorem mw_5_189 : (Cond.code ⟨"OneLampModel", "product", "()V"⟩ prog_13_method_32_code 2 (Option.none : Option Jvm.ClassFile.FieldType)) ∈ g_tbl := tm_5 (List.mem_of_getElem? (i := 189) rfl) rfl
theorem mw_5_190 : (Cond.methodLink "OneLampModel" 215 ⟨"OneLampModel", "operand", "()V"⟩) ∈ g_tbl := tm_5 (List.mem_of_getElem? (i := 190) rfl) rfl
theorem mw_5_192 : (Cond.instanceMethod ⟨"OneLampModel", "operand", "()V"⟩) ∈ g_tbl := tm_5 (List.mem_of_getElem? (i := 192) rfl) rfl
theorem mw_5_193 : (Cond.code ⟨"OneLampModel", "operand", "()V"⟩ prog_13_method_31_code 2 (Option.none : Option Jvm.ClassFile.FieldType)) ∈ g_tbl := tm_5 (List.mem_of_getElem? (i := 193) rfl) rfl
theorem mw_5_194 : (Cond.methodLink "OneLampModel" 200 ⟨"OneLampModel", "look", "()I"⟩) ∈ g_tbl := tm_5 (List.mem_of_getElem? (i := 194) rfl) rfl
theorem mw_5_196 : (Cond.instanceMethod ⟨"OneLampModel", "look", "()I"⟩) ∈ g_tbl := tm_5 (List.mem_of_getElem? (i := 196) rfl) rfl
theorem mw_5_197 : (Cond.code ⟨"OneLampModel", "look", "()I"⟩ prog_13_method_25_code 1 (Option.some .int)) ∈ g_tbl := tm_5 (List.mem_of_getElem? (i := 197) rfl) rfl
theorem mw_5_198 : (Cond.methodLink "OneLampModel" 207 ⟨"OneLampModel", "nameOf", "(I)I"⟩) ∈ g_tbl := tm_5 (List.mem_of_getElem? (i := 198) rfl) rfl
theorem mw_5_199 : (Cond.static ⟨"OneLampModel", "nameOf", "(I)I"⟩) ∈ g_tbl := tm_5 (List.mem_of_getElem? (i := 199) rfl) rfl
theorem mw_5_200 : (Cond.code ⟨"OneLampModel", "nameOf", "(I)I"⟩ prog_13_method_28_code 1 (Option.some .int)) ∈ g_tbl := tm_5 (List.mem_of_getElem? (i := 200) rfl) rfl
theorem mw_5_201 : (Cond.methodLink "OneLampModel" 203 ⟨"OneLampModel", "addStep", "(II)V"⟩) ∈ g_tbl := tm_5 (List.mem_of_getElem? (i := 201) rfl) rfl
theorem mw_5_203 : (Cond.instanceMethod ⟨"OneLampModel", "addStep", "(II)V"⟩) ∈ g_tbl := tm_5 (List.mem_of_getElem? (i := 203) rfl) rfl
theorem mw_5_204 : (Cond.code ⟨"OneLampModel", "addStep", "(II)V"⟩ prog_13_method_27_code 3 (Option.none : Option Jvm.ClassFile.FieldType)) ∈ g_tbl := tm_5 (List.mem_of_getElem? (i := 204) rfl) rfl
theorem mw_5_205 : (Cond.methodLink "OneLampModel" 211 ⟨"OneLampModel", "opens", "()Z"⟩) ∈ g_tbl := tm_5 (List.mem_of_getElem? (i := 205) rfl) rfl
theorem mw_5_207 : (Cond.instanceMethod ⟨"OneLampModel", "opens", "()Z"⟩) ∈ g_tbl := tm_5 (List.mem_of_getElem? (i := 207) rfl) rfl
theorem mw_5_208 : (Cond.code ⟨"OneLampModel", "opens", "()Z"⟩ prog_13_method_29_code 1 (Option.some .boolean)) ∈ g_tbl := tm_5 (List.mem_of_getElem? (i := 208) rfl) rfl
theorem mw_5_209 : (Cond.methodLink "OneLampModel" 197 ⟨"OneLampModel", "faulty", "()V"⟩) ∈ g_tbl := tm_5 (List.mem_of_getElem? (i := 209) rfl) rfl
theorem mw_5_211 : (Cond.instanceMethod ⟨"OneLampModel", "faulty", "()V"⟩) ∈ g_tbl := tm_5 (List.mem_of_getElem? (i := 211) rfl) rfl
theorem mw_5_212 : (Cond.code ⟨"OneLampModel", "faulty", "()V"⟩ prog_13_method_26_code 1 (Option.none : Option Jvm.ClassFile.FieldType)) ∈ g_tbl := tm_5 (List.mem_of_getElem? (i := 212) rfl) rfl
theorem mw_5_213 : (Cond.methodLink "OneLampModel" 221 ⟨"OneLampModel", "figure", "()V"⟩) ∈ g_tbl := tm_5 (List.mem_of_getElem? (i := 213) rfl) rfl
theorem mw_5_215 : (Cond.instanceMethod ⟨"OneLampModel", "figure", "()V"⟩) ∈ g_tbl := tm_5 (List.mem_of_getElem? (i := 215) rfl) rfl
theorem mw_5_216 : (Cond.code ⟨"OneLampModel", "figure", "()V"⟩ prog_13_method_30_code 3 (Option.none : Option Jvm.ClassFile.FieldType)) ∈ g_tbl := tm_5 (List.mem_of_getElem? (i := 216) rfl) rfl
theorem mw_5_217 : (Cond.methodLink "OneLampLaw" 56 ⟨"OneLampModel", "picture", "(II)I"⟩) ∈ g_tbl := tm_5 (List.mem_of_getElem? (i := 217) rfl) rfl
theorem mw_5_218 : (Cond.instanceMethod ⟨"OneLampModel", "picture", "(II)I"⟩) ∈ g_tbl := tm_5 (List.mem_of_getElem? (i := 218) rfl) rfl
theorem mw_5_219 : (Cond.selects "OneLampModel" ⟨"OneLampModel", "picture", "(II)I"⟩ ⟨"OneLampModel", "picture", "(II)I"⟩) ∈ g_tbl := tm_5 (List.mem_of_getElem? (i := 219) rfl) rfl
theorem mw_5_220 : (Cond.code ⟨"OneLampModel", "picture", "(II)I"⟩ prog_13_method_45_code 3 (Option.some .int)) ∈ g_tbl := tm_5 (List.mem_of_getElem? (i := 220) rfl) rfl
theorem mw_5_221 : (Cond.methodLink "OneLampModel" 257 ⟨"OneLampModel", "isBarred", "(I)Z"⟩) ∈ g_tbl := tm_5 (List.mem_of_getElem? (i := 221) rfl) rfl
theorem mw_5_223 : (Cond.instanceMethod ⟨"OneLampModel", "isBarred", "(I)Z"⟩) ∈ g_tbl := tm_5 (List.mem_of_getElem? (i := 223) rfl) rfl
theorem mw_5_224 : (Cond.code ⟨"OneLampModel", "isBarred", "(I)Z"⟩ prog_13_method_43_code 3 (Option.some .boolean)) ∈ g_tbl := tm_5 (List.mem_of_getElem? (i := 224) rfl) rfl
theorem mw_5_225 : (Cond.methodLink "OneLampModel" 251 ⟨"OneLampModel", "litOf", "(I)I"⟩) ∈ g_tbl := tm_5 (List.mem_of_getElem? (i := 225) rfl) rfl
theorem mw_5_226 : (Cond.static ⟨"OneLampModel", "litOf", "(I)I"⟩) ∈ g_tbl := tm_5 (List.mem_of_getElem? (i := 226) rfl) rfl
theorem mw_5_227 : (Cond.code ⟨"OneLampModel", "litOf", "(I)I"⟩ prog_13_method_4_code 3 (Option.some .int)) ∈ g_tbl := tm_5 (List.mem_of_getElem? (i := 227) rfl) rfl
theorem mw_5_228 : (Cond.methodLink "OneLampModel" 254 ⟨"OneLampModel", "gives", "(I)I"⟩) ∈ g_tbl := tm_5 (List.mem_of_getElem? (i := 228) rfl) rfl
theorem mw_5_230 : (Cond.instanceMethod ⟨"OneLampModel", "gives", "(I)I"⟩) ∈ g_tbl := tm_5 (List.mem_of_getElem? (i := 230) rfl) rfl
theorem mw_5_231 : (Cond.code ⟨"OneLampModel", "gives", "(I)I"⟩ prog_13_method_41_code 4 (Option.some .int)) ∈ g_tbl := tm_5 (List.mem_of_getElem? (i := 231) rfl) rfl
theorem mw_5_232 : (Cond.methodLink "OneLampModel" 242 ⟨"OneLampModel", "worked", "(III)I"⟩) ∈ g_tbl := tm_5 (List.mem_of_getElem? (i := 232) rfl) rfl
theorem mw_5_234 : (Cond.instanceMethod ⟨"OneLampModel", "worked", "(III)I"⟩) ∈ g_tbl := tm_5 (List.mem_of_getElem? (i := 234) rfl) rfl
theorem mw_5_235 : (Cond.code ⟨"OneLampModel", "worked", "(III)I"⟩ prog_13_method_40_code 7 (Option.some .int)) ∈ g_tbl := tm_5 (List.mem_of_getElem? (i := 235) rfl) rfl
theorem mw_5_236 : (Cond.methodLink "OneLampModel" 239 ⟨"OneLampModel", "twoOf", "(III)I"⟩) ∈ g_tbl := tm_5 (List.mem_of_getElem? (i := 236) rfl) rfl
theorem mw_5_237 : (Cond.static ⟨"OneLampModel", "twoOf", "(III)I"⟩) ∈ g_tbl := tm_5 (List.mem_of_getElem? (i := 237) rfl) rfl
theorem mw_5_238 : (Cond.code ⟨"OneLampModel", "twoOf", "(III)I"⟩ prog_13_method_39_code 3 (Option.some .int)) ∈ g_tbl := tm_5 (List.mem_of_getElem? (i := 238) rfl) rfl
theorem mw_5_239 : (Cond.methodLink "OneLampLaw" 60 ⟨"OneLampModel", "lamp", "(II)I"⟩) ∈ g_tbl := tm_5 (List.mem_of_getElem? (i := 239) rfl) rfl
theorem mw_6_0 : (Cond.instanceMethod ⟨"OneLampModel", "lamp", "(II)I"⟩) ∈ g_tbl := tm_6 (List.mem_of_getElem? (i := 0) rfl) rfl
theorem mw_6_1 : (Cond.selects "OneLampModel" ⟨"OneLampModel", "lamp", "(II)I"⟩ ⟨"OneLampModel", "lamp", "(II)I"⟩) ∈ g_tbl := tm_6 (List.mem_of_getElem? (i := 1) rfl) rfl
theorem mw_6_2 : (Cond.code ⟨"OneLampModel", "lamp", "(II)I"⟩ prog_13_method_46_code 3 (Option.some .int)) ∈ g_tbl := tm_6 (List.mem_of_getElem? (i := 2) rfl) rfl
theorem mw_6_3 : (Cond.methodLink "OneLampModel" 260 ⟨"OneLampModel", "isLamp", "(I)Z"⟩) ∈ g_tbl := tm_6 (List.mem_of_getElem? (i := 3) rfl) rfl
theorem mw_6_5 : (Cond.instanceMethod ⟨"OneLampModel", "isLamp", "(I)Z"⟩) ∈ g_tbl := tm_6 (List.mem_of_getElem? (i := 5) rfl) rfl
theorem mw_6_6 : (Cond.code ⟨"OneLampModel", "isLamp", "(I)Z"⟩ prog_13_method_7_code 2 (Option.some .boolean)) ∈ g_tbl := tm_6 (List.mem_of_getElem? (i := 6) rfl) rfl
theorem mw_6_7 : (Cond.methodLink "OneLampLaw" 64 ⟨"OneLampModel", "may", "()I"⟩) ∈ g_tbl := tm_6 (List.mem_of_getElem? (i := 7) rfl) rfl
theorem mw_6_8 : (Cond.instanceMethod ⟨"OneLampModel", "may", "()I"⟩) ∈ g_tbl := tm_6 (List.mem_of_getElem? (i := 8) rfl) rfl
theorem mw_6_9 : (Cond.selects "OneLampModel" ⟨"OneLampModel", "may", "()I"⟩ ⟨"OneLampModel", "may", "()I"⟩) ∈ g_tbl := tm_6 (List.mem_of_getElem? (i := 9) rfl) rfl
theorem mw_6_10 : (Cond.code ⟨"OneLampModel", "may", "()I"⟩ prog_13_method_51_code 3 (Option.some .int)) ∈ g_tbl := tm_6 (List.mem_of_getElem? (i := 10) rfl) rfl
theorem mw_6_11 : (Cond.methodLink "OneLampModel" 266 ⟨"OneLampModel", "findBarred", "()V"⟩) ∈ g_tbl := tm_6 (List.mem_of_getElem? (i := 11) rfl) rfl
theorem mw_6_13 : (Cond.instanceMethod ⟨"OneLampModel", "findBarred", "()V"⟩) ∈ g_tbl := tm_6 (List.mem_of_getElem? (i := 13) rfl) rfl
theorem mw_6_14 : (Cond.code ⟨"OneLampModel", "findBarred", "()V"⟩ prog_13_method_44_code 2 (Option.none : Option Jvm.ClassFile.FieldType)) ∈ g_tbl := tm_6 (List.mem_of_getElem? (i := 14) rfl) rfl
theorem mw_6_15 : (Cond.methodLink "OneLampModel" 269 ⟨"OneLampModel", "mayChange", "(I)Z"⟩) ∈ g_tbl := tm_6 (List.mem_of_getElem? (i := 15) rfl) rfl
theorem mw_6_17 : (Cond.instanceMethod ⟨"OneLampModel", "mayChange", "(I)Z"⟩) ∈ g_tbl := tm_6 (List.mem_of_getElem? (i := 17) rfl) rfl
theorem mw_6_18 : (Cond.code ⟨"OneLampModel", "mayChange", "(I)Z"⟩ prog_13_method_48_code 3 (Option.some .boolean)) ∈ g_tbl := tm_6 (List.mem_of_getElem? (i := 18) rfl) rfl
theorem mw_6_19 : (Cond.methodLink "OneLampModel" 263 ⟨"OneLampModel", "isAlone", "(I)Z"⟩) ∈ g_tbl := tm_6 (List.mem_of_getElem? (i := 19) rfl) rfl
theorem mw_6_21 : (Cond.instanceMethod ⟨"OneLampModel", "isAlone", "(I)Z"⟩) ∈ g_tbl := tm_6 (List.mem_of_getElem? (i := 21) rfl) rfl
theorem mw_6_22 : (Cond.code ⟨"OneLampModel", "isAlone", "(I)Z"⟩ prog_13_method_47_code 3 (Option.some .boolean)) ∈ g_tbl := tm_6 (List.mem_of_getElem? (i := 22) rfl) rfl
theorem mw_6_23 : (Cond.methodLink "OneLampLaw" 68 ⟨"OneLampModel", "change", "(I)I"⟩) ∈ g_tbl := tm_6 (List.mem_of_getElem? (i := 23) rfl) rfl
theorem mw_6_24 : (Cond.instanceMethod ⟨"OneLampModel", "change", "(I)I"⟩) ∈ g_tbl := tm_6 (List.mem_of_getElem? (i := 24) rfl) rfl
theorem mw_6_25 : (Cond.selects "OneLampModel" ⟨"OneLampModel", "change", "(I)I"⟩ ⟨"OneLampModel", "change", "(I)I"⟩) ∈ g_tbl := tm_6 (List.mem_of_getElem? (i := 25) rfl) rfl
theorem mw_6_26 : (Cond.code ⟨"OneLampModel", "change", "(I)I"⟩ prog_13_method_52_code 2 (Option.some .int)) ∈ g_tbl := tm_6 (List.mem_of_getElem? (i := 26) rfl) rfl
theorem mw_6_27 : (Cond.methodLink "OneLampModel" 272 ⟨"OneLampModel", "go", "(I)I"⟩) ∈ g_tbl := tm_6 (List.mem_of_getElem? (i := 27) rfl) rfl
theorem mw_6_29 : (Cond.instanceMethod ⟨"OneLampModel", "go", "(I)I"⟩) ∈ g_tbl := tm_6 (List.mem_of_getElem? (i := 29) rfl) rfl
theorem mw_6_30 : (Cond.code ⟨"OneLampModel", "go", "(I)I"⟩ prog_13_method_49_code 3 (Option.some .int)) ∈ g_tbl := tm_6 (List.mem_of_getElem? (i := 30) rfl) rfl
theorem mw_6_31 : (Cond.methodLink "OneLampLaw" 72 ⟨"OneLampModel", "longest", "(I)I"⟩) ∈ g_tbl := tm_6 (List.mem_of_getElem? (i := 31) rfl) rfl
theorem mw_6_32 : (Cond.instanceMethod ⟨"OneLampModel", "longest", "(I)I"⟩) ∈ g_tbl := tm_6 (List.mem_of_getElem? (i := 32) rfl) rfl
theorem mw_6_33 : (Cond.selects "OneLampModel" ⟨"OneLampModel", "longest", "(I)I"⟩ ⟨"OneLampModel", "longest", "(I)I"⟩) ∈ g_tbl := tm_6 (List.mem_of_getElem? (i := 33) rfl) rfl
theorem mw_6_34 : (Cond.code ⟨"OneLampModel", "longest", "(I)I"⟩ prog_13_method_54_code 2 (Option.some .int)) ∈ g_tbl := tm_6 (List.mem_of_getElem? (i := 34) rfl) rfl
theorem mw_6_35 : (Cond.methodLink "OneLampModel" 278 ⟨"OneLampModel", "longestFrom", "(I)V"⟩) ∈ g_tbl := tm_6 (List.mem_of_getElem? (i := 35) rfl) rfl
theorem mw_6_37 : (Cond.instanceMethod ⟨"OneLampModel", "longestFrom", "(I)V"⟩) ∈ g_tbl := tm_6 (List.mem_of_getElem? (i := 37) rfl) rfl
theorem mw_6_38 : (Cond.code ⟨"OneLampModel", "longestFrom", "(I)V"⟩ prog_13_method_53_code 4 (Option.none : Option Jvm.ClassFile.FieldType)) ∈ g_tbl := tm_6 (List.mem_of_getElem? (i := 38) rfl) rfl
theorem mw_6_39 : (Cond.methodLink "OneLampModel" 281 ⟨"OneLampModel", "goBack", "(II)V"⟩) ∈ g_tbl := tm_6 (List.mem_of_getElem? (i := 39) rfl) rfl
theorem mw_6_41 : (Cond.instanceMethod ⟨"OneLampModel", "goBack", "(II)V"⟩) ∈ g_tbl := tm_6 (List.mem_of_getElem? (i := 41) rfl) rfl
theorem mw_6_42 : (Cond.code ⟨"OneLampModel", "goBack", "(II)V"⟩ prog_13_method_50_code 3 (Option.none : Option Jvm.ClassFile.FieldType)) ∈ g_tbl := tm_6 (List.mem_of_getElem? (i := 42) rfl) rfl
theorem mw_6_43 : (Cond.methodLink "OneLampLaw" 76 ⟨"OneLampModel", "wished", "(I)I"⟩) ∈ g_tbl := tm_6 (List.mem_of_getElem? (i := 43) rfl) rfl
theorem mw_6_44 : (Cond.instanceMethod ⟨"OneLampModel", "wished", "(I)I"⟩) ∈ g_tbl := tm_6 (List.mem_of_getElem? (i := 44) rfl) rfl
theorem mw_6_45 : (Cond.selects "OneLampModel" ⟨"OneLampModel", "wished", "(I)I"⟩ ⟨"OneLampModel", "wished", "(I)I"⟩) ∈ g_tbl := tm_6 (List.mem_of_getElem? (i := 45) rfl) rfl
theorem mw_6_46 : (Cond.code ⟨"OneLampModel", "wished", "(I)I"⟩ prog_13_method_56_code 2 (Option.some .int)) ∈ g_tbl := tm_6 (List.mem_of_getElem? (i := 46) rfl) rfl
theorem mw_6_47 : (Cond.methodLink "OneLampModel" 284 ⟨"OneLampModel", "comesTo", "(I)I"⟩) ∈ g_tbl := tm_6 (List.mem_of_getElem? (i := 47) rfl) rfl
theorem mw_6_49 : (Cond.instanceMethod ⟨"OneLampModel", "comesTo", "(I)I"⟩) ∈ g_tbl := tm_6 (List.mem_of_getElem? (i := 49) rfl) rfl
theorem mw_6_50 : (Cond.code ⟨"OneLampModel", "comesTo", "(I)I"⟩ prog_13_method_55_code 5 (Option.some .int)) ∈ g_tbl := tm_6 (List.mem_of_getElem? (i := 50) rfl) rfl
theorem mw_6_51 : (Cond.methodLink "OneLampLaw" 80 ⟨"OneLampModel", "game", "(I)I"⟩) ∈ g_tbl := tm_6 (List.mem_of_getElem? (i := 51) rfl) rfl
theorem mw_6_52 : (Cond.instanceMethod ⟨"OneLampModel", "game", "(I)I"⟩) ∈ g_tbl := tm_6 (List.mem_of_getElem? (i := 52) rfl) rfl
theorem mw_6_53 : (Cond.selects "OneLampModel" ⟨"OneLampModel", "game", "(I)I"⟩ ⟨"OneLampModel", "game", "(I)I"⟩) ∈ g_tbl := tm_6 (List.mem_of_getElem? (i := 53) rfl) rfl
theorem mw_6_54 : (Cond.code ⟨"OneLampModel", "game", "(I)I"⟩ prog_13_method_58_code 5 (Option.some .int)) ∈ g_tbl := tm_6 (List.mem_of_getElem? (i := 54) rfl) rfl
theorem mw_6_55 : (Cond.methodLink "OneLampModel" 287 ⟨"OneLampModel", "wins", "()Z"⟩) ∈ g_tbl := tm_6 (List.mem_of_getElem? (i := 55) rfl) rfl
theorem mw_6_57 : (Cond.instanceMethod ⟨"OneLampModel", "wins", "()Z"⟩) ∈ g_tbl := tm_6 (List.mem_of_getElem? (i := 57) rfl) rfl
theorem mw_6_58 : (Cond.code ⟨"OneLampModel", "wins", "()Z"⟩ prog_13_method_57_code 4 (Option.some .boolean)) ∈ g_tbl := tm_6 (List.mem_of_getElem? (i := 58) rfl) rfl
theorem mw_6_59 : (Cond.methodLink "OneLampLaw" 84 ⟨"OneLampModel", "ways", "(II)I"⟩) ∈ g_tbl := tm_6 (List.mem_of_getElem? (i := 59) rfl) rfl
theorem mw_6_60 : (Cond.instanceMethod ⟨"OneLampModel", "ways", "(II)I"⟩) ∈ g_tbl := tm_6 (List.mem_of_getElem? (i := 60) rfl) rfl
theorem mw_6_61 : (Cond.selects "OneLampModel" ⟨"OneLampModel", "ways", "(II)I"⟩ ⟨"OneLampModel", "ways", "(II)I"⟩) ∈ g_tbl := tm_6 (List.mem_of_getElem? (i := 61) rfl) rfl
theorem mw_6_62 : (Cond.code ⟨"OneLampModel", "ways", "(II)I"⟩ prog_13_method_60_code 3 (Option.some .int)) ∈ g_tbl := tm_6 (List.mem_of_getElem? (i := 62) rfl) rfl
theorem mw_6_63 : (Cond.methodLink "OneLampModel" 290 ⟨"OneLampModel", "waysTo", "(II)I"⟩) ∈ g_tbl := tm_6 (List.mem_of_getElem? (i := 63) rfl) rfl
theorem mw_6_65 : (Cond.instanceMethod ⟨"OneLampModel", "waysTo", "(II)I"⟩) ∈ g_tbl := tm_6 (List.mem_of_getElem? (i := 65) rfl) rfl
theorem mw_6_66 : (Cond.code ⟨"OneLampModel", "waysTo", "(II)I"⟩ prog_13_method_59_code 6 (Option.some .int)) ∈ g_tbl := tm_6 (List.mem_of_getElem? (i := 66) rfl) rfl
theorem mw_6_67 : (Cond.methodLink "OneLampLaw" 88 ⟨"OneLampModel", "judge", "(I)I"⟩) ∈ g_tbl := tm_6 (List.mem_of_getElem? (i := 67) rfl) rfl
theorem mw_6_68 : (Cond.instanceMethod ⟨"OneLampModel", "judge", "(I)I"⟩) ∈ g_tbl := tm_6 (List.mem_of_getElem? (i := 68) rfl) rfl
theorem mw_6_69 : (Cond.selects "OneLampModel" ⟨"OneLampModel", "judge", "(I)I"⟩ ⟨"OneLampModel", "judge", "(I)I"⟩) ∈ g_tbl := tm_6 (List.mem_of_getElem? (i := 69) rfl) rfl
theorem mw_6_70 : (Cond.code ⟨"OneLampModel", "judge", "(I)I"⟩ prog_13_method_65_code 4 (Option.some .int)) ∈ g_tbl := tm_6 (List.mem_of_getElem? (i := 70) rfl) rfl
theorem mw_6_71 : (Cond.methodLink "OneLampModel" 302 ⟨"OneLampModel", "keepNow", "()V"⟩) ∈ g_tbl := tm_6 (List.mem_of_getElem? (i := 71) rfl) rfl
theorem mw_6_73 : (Cond.instanceMethod ⟨"OneLampModel", "keepNow", "()V"⟩) ∈ g_tbl := tm_6 (List.mem_of_getElem? (i := 73) rfl) rfl
theorem mw_6_74 : (Cond.code ⟨"OneLampModel", "keepNow", "()V"⟩ prog_13_method_61_code 2 (Option.none : Option Jvm.ClassFile.FieldType)) ∈ g_tbl := tm_6 (List.mem_of_getElem? (i := 74) rfl) rfl
theorem mw_6_75 : (Cond.methodLink "OneLampModel" 305 ⟨"OneLampModel", "goesTo", "(IZ)Z"⟩) ∈ g_tbl := tm_6 (List.mem_of_getElem? (i := 75) rfl) rfl
theorem mw_6_77 : (Cond.instanceMethod ⟨"OneLampModel", "goesTo", "(IZ)Z"⟩) ∈ g_tbl := tm_6 (List.mem_of_getElem? (i := 77) rfl) rfl
theorem mw_6_78 : (Cond.code ⟨"OneLampModel", "goesTo", "(IZ)Z"⟩ prog_13_method_64_code 4 (Option.some .boolean)) ∈ g_tbl := tm_6 (List.mem_of_getElem? (i := 78) rfl) rfl
theorem mw_6_79 : (Cond.methodLink "OneLampModel" 299 ⟨"OneLampModel", "lampTo", "(I)I"⟩) ∈ g_tbl := tm_6 (List.mem_of_getElem? (i := 79) rfl) rfl
theorem mw_6_81 : (Cond.instanceMethod ⟨"OneLampModel", "lampTo", "(I)I"⟩) ∈ g_tbl := tm_6 (List.mem_of_getElem? (i := 81) rfl) rfl
theorem mw_6_82 : (Cond.code ⟨"OneLampModel", "lampTo", "(I)I"⟩ prog_13_method_63_code 3 (Option.some .int)) ∈ g_tbl := tm_6 (List.mem_of_getElem? (i := 82) rfl) rfl
theorem mw_6_83 : (Cond.methodLink "OneLampModel" 309 ⟨"OneLampModel", "layBack", "()V"⟩) ∈ g_tbl := tm_6 (List.mem_of_getElem? (i := 83) rfl) rfl
theorem mw_6_85 : (Cond.instanceMethod ⟨"OneLampModel", "layBack", "()V"⟩) ∈ g_tbl := tm_6 (List.mem_of_getElem? (i := 85) rfl) rfl
theorem mw_6_86 : (Cond.code ⟨"OneLampModel", "layBack", "()V"⟩ prog_13_method_62_code 2 (Option.none : Option Jvm.ClassFile.FieldType)) ∈ g_tbl := tm_6 (List.mem_of_getElem? (i := 86) rfl) rfl
theorem mw_6_87 : (Cond.methodLink "OneLampLaw" 95 ⟨"OneLampModel", "mirror", "(JI)J"⟩) ∈ g_tbl := tm_6 (List.mem_of_getElem? (i := 87) rfl) rfl
theorem mw_6_88 : (Cond.instanceMethod ⟨"OneLampModel", "mirror", "(JI)J"⟩) ∈ g_tbl := tm_6 (List.mem_of_getElem? (i := 88) rfl) rfl
theorem mw_6_89 : (Cond.selects "OneLampModel" ⟨"OneLampModel", "mirror", "(JI)J"⟩ ⟨"OneLampModel", "mirror", "(JI)J"⟩) ∈ g_tbl := tm_6 (List.mem_of_getElem? (i := 89) rfl) rfl
theorem mw_6_90 : (Cond.code ⟨"OneLampModel", "mirror", "(JI)J"⟩ prog_13_method_69_code 4 (Option.some .long)) ∈ g_tbl := tm_6 (List.mem_of_getElem? (i := 90) rfl) rfl
theorem mw_6_91 : (Cond.methodLink "OneLampModel" 314 ⟨"OneLampModel", "isFar", "(J)Z"⟩) ∈ g_tbl := tm_6 (List.mem_of_getElem? (i := 91) rfl) rfl
theorem mw_6_92 : (Cond.static ⟨"OneLampModel", "isFar", "(J)Z"⟩) ∈ g_tbl := tm_6 (List.mem_of_getElem? (i := 92) rfl) rfl
theorem mw_6_93 : (Cond.code ⟨"OneLampModel", "isFar", "(J)Z"⟩ prog_13_method_68_code 2 (Option.some .boolean)) ∈ g_tbl := tm_6 (List.mem_of_getElem? (i := 93) rfl) rfl
theorem mw_6_94 : (Cond.constantLong "OneLampModel" 318 (-1)) ∈ g_tbl := tm_6 (List.mem_of_getElem? (i := 94) rfl) rfl
theorem mw_6_95 : (Cond.methodLink "OneLampModel" 320 ⟨"OneLampModel", "nightOf", "(J)J"⟩) ∈ g_tbl := tm_6 (List.mem_of_getElem? (i := 95) rfl) rfl
theorem mw_6_96 : (Cond.static ⟨"OneLampModel", "nightOf", "(J)J"⟩) ∈ g_tbl := tm_6 (List.mem_of_getElem? (i := 96) rfl) rfl
theorem mw_6_97 : (Cond.code ⟨"OneLampModel", "nightOf", "(J)J"⟩ prog_13_method_66_code 5 (Option.some .long)) ∈ g_tbl := tm_6 (List.mem_of_getElem? (i := 97) rfl) rfl
theorem mw_6_98 : (Cond.constantLong "OneLampModel" 324 (-2)) ∈ g_tbl := tm_6 (List.mem_of_getElem? (i := 98) rfl) rfl
theorem mw_6_99 : (Cond.methodLink "OneLampModel" 326 ⟨"OneLampModel", "lampOf", "(J)J"⟩) ∈ g_tbl := tm_6 (List.mem_of_getElem? (i := 99) rfl) rfl
theorem mw_6_100 : (Cond.static ⟨"OneLampModel", "lampOf", "(J)J"⟩) ∈ g_tbl := tm_6 (List.mem_of_getElem? (i := 100) rfl) rfl
theorem mw_6_101 : (Cond.code ⟨"OneLampModel", "lampOf", "(J)J"⟩ prog_13_method_67_code 6 (Option.some .long)) ∈ g_tbl := tm_6 (List.mem_of_getElem? (i := 101) rfl) rfl
theorem mw_6_102 : (Cond.constantLong "OneLampModel" 312 2) ∈ g_tbl := tm_6 (List.mem_of_getElem? (i := 102) rfl) rfl
theorem mw_6_103 : (Cond.methodLink "OneLampLaw" 100 ⟨"OneLampModel", "several", "(IJ)I"⟩) ∈ g_tbl := tm_6 (List.mem_of_getElem? (i := 103) rfl) rfl
theorem mw_6_104 : (Cond.instanceMethod ⟨"OneLampModel", "several", "(IJ)I"⟩) ∈ g_tbl := tm_6 (List.mem_of_getElem? (i := 104) rfl) rfl
theorem mw_6_105 : (Cond.selects "OneLampModel" ⟨"OneLampModel", "several", "(IJ)I"⟩ ⟨"OneLampModel", "several", "(IJ)I"⟩) ∈ g_tbl := tm_6 (List.mem_of_getElem? (i := 105) rfl) rfl
theorem mw_6_106 : (Cond.code ⟨"OneLampModel", "several", "(IJ)I"⟩ prog_13_method_70_code 8 (Option.some .int)) ∈ g_tbl := tm_6 (List.mem_of_getElem? (i := 106) rfl) rfl
theorem mw_6_107 : (Cond.methodLink "OneLampLaw" 104 ⟨"OneLampModel", "through", "(III)I"⟩) ∈ g_tbl := tm_6 (List.mem_of_getElem? (i := 107) rfl) rfl
theorem mw_6_108 : (Cond.instanceMethod ⟨"OneLampModel", "through", "(III)I"⟩) ∈ g_tbl := tm_6 (List.mem_of_getElem? (i := 108) rfl) rfl
theorem mw_6_109 : (Cond.selects "OneLampModel" ⟨"OneLampModel", "through", "(III)I"⟩ ⟨"OneLampModel", "through", "(III)I"⟩) ∈ g_tbl := tm_6 (List.mem_of_getElem? (i := 109) rfl) rfl
theorem mw_6_110 : (Cond.code ⟨"OneLampModel", "through", "(III)I"⟩ prog_13_method_72_code 5 (Option.some .int)) ∈ g_tbl := tm_6 (List.mem_of_getElem? (i := 110) rfl) rfl
theorem mw_6_111 : (Cond.methodLink "OneLampModel" 329 ⟨"OneLampModel", "goesThrough", "(IIII)Z"⟩) ∈ g_tbl := tm_6 (List.mem_of_getElem? (i := 111) rfl) rfl
theorem mw_6_113 : (Cond.instanceMethod ⟨"OneLampModel", "goesThrough", "(IIII)Z"⟩) ∈ g_tbl := tm_6 (List.mem_of_getElem? (i := 113) rfl) rfl
theorem mw_6_114 : (Cond.code ⟨"OneLampModel", "goesThrough", "(IIII)Z"⟩ prog_13_method_71_code 7 (Option.some .boolean)) ∈ g_tbl := tm_6 (List.mem_of_getElem? (i := 114) rfl) rfl
theorem mw_6_115 : (Cond.methodLink "OneLampLaw" 108 ⟨"OneLampModel", "image", "()I"⟩) ∈ g_tbl := tm_6 (List.mem_of_getElem? (i := 115) rfl) rfl
theorem mw_6_116 : (Cond.instanceMethod ⟨"OneLampModel", "image", "()I"⟩) ∈ g_tbl := tm_6 (List.mem_of_getElem? (i := 116) rfl) rfl
theorem mw_6_117 : (Cond.selects "OneLampModel" ⟨"OneLampModel", "image", "()I"⟩ ⟨"OneLampModel", "image", "()I"⟩) ∈ g_tbl := tm_6 (List.mem_of_getElem? (i := 117) rfl) rfl
theorem mw_6_118 : (Cond.code ⟨"OneLampModel", "image", "()I"⟩ prog_13_method_73_code 2 (Option.some .int)) ∈ g_tbl := tm_6 (List.mem_of_getElem? (i := 118) rfl) rfl
theorem mw_6_119 : (Cond.methodLink "OneLampLaw" 112 ⟨"OneLampModel", "back", "()I"⟩) ∈ g_tbl := tm_6 (List.mem_of_getElem? (i := 119) rfl) rfl
theorem mw_6_120 : (Cond.instanceMethod ⟨"OneLampModel", "back", "()I"⟩) ∈ g_tbl := tm_6 (List.mem_of_getElem? (i := 120) rfl) rfl
theorem mw_6_121 : (Cond.selects "OneLampModel" ⟨"OneLampModel", "back", "()I"⟩ ⟨"OneLampModel", "back", "()I"⟩) ∈ g_tbl := tm_6 (List.mem_of_getElem? (i := 121) rfl) rfl
theorem mw_6_122 : (Cond.code ⟨"OneLampModel", "back", "()I"⟩ prog_13_method_74_code 2 (Option.some .int)) ∈ g_tbl := tm_6 (List.mem_of_getElem? (i := 122) rfl) rfl
theorem mw_6_123 : (Cond.methodLink "OneLampLaw" 132 ⟨"OneLampModel", "trace", "(I)I"⟩) ∈ g_tbl := tm_6 (List.mem_of_getElem? (i := 123) rfl) rfl
theorem mw_6_124 : (Cond.instanceMethod ⟨"OneLampModel", "trace", "(I)I"⟩) ∈ g_tbl := tm_6 (List.mem_of_getElem? (i := 124) rfl) rfl
theorem mw_6_125 : (Cond.selects "OneLampModel" ⟨"OneLampModel", "trace", "(I)I"⟩ ⟨"OneLampModel", "trace", "(I)I"⟩) ∈ g_tbl := tm_6 (List.mem_of_getElem? (i := 125) rfl) rfl
theorem mw_6_126 : (Cond.code ⟨"OneLampModel", "trace", "(I)I"⟩ prog_13_method_77_code 2 (Option.some .int)) ∈ g_tbl := tm_6 (List.mem_of_getElem? (i := 126) rfl) rfl
theorem mw_6_127 : (Cond.methodLink "OneLampLaw" 124 ⟨"OneLampModel", "body", "(I)I"⟩) ∈ g_tbl := tm_6 (List.mem_of_getElem? (i := 127) rfl) rfl
theorem mw_6_128 : (Cond.instanceMethod ⟨"OneLampModel", "body", "(I)I"⟩) ∈ g_tbl := tm_6 (List.mem_of_getElem? (i := 128) rfl) rfl
theorem mw_6_129 : (Cond.selects "OneLampModel" ⟨"OneLampModel", "body", "(I)I"⟩ ⟨"OneLampModel", "body", "(I)I"⟩) ∈ g_tbl := tm_6 (List.mem_of_getElem? (i := 129) rfl) rfl
theorem mw_6_130 : (Cond.code ⟨"OneLampModel", "body", "(I)I"⟩ prog_13_method_78_code 2 (Option.some .int)) ∈ g_tbl := tm_6 (List.mem_of_getElem? (i := 130) rfl) rfl
theorem mw_6_131 : (Cond.methodLink "OneLampLaw" 128 ⟨"OneLampModel", "act", "(III)I"⟩) ∈ g_tbl := tm_6 (List.mem_of_getElem? (i := 131) rfl) rfl
theorem mw_6_132 : (Cond.instanceMethod ⟨"OneLampModel", "act", "(III)I"⟩) ∈ g_tbl := tm_6 (List.mem_of_getElem? (i := 132) rfl) rfl
theorem mw_6_133 : (Cond.selects "OneLampModel" ⟨"OneLampModel", "act", "(III)I"⟩ ⟨"OneLampModel", "act", "(III)I"⟩) ∈ g_tbl := tm_6 (List.mem_of_getElem? (i := 133) rfl) rfl
theorem mw_6_134 : (Cond.code ⟨"OneLampModel", "act", "(III)I"⟩ prog_13_method_91_code 4 (Option.some .int)) ∈ g_tbl := tm_6 (List.mem_of_getElem? (i := 134) rfl) rfl
theorem mw_6_135 : (Cond.methodLink "OneLampModel" 391 ⟨"OneLampModel", "isBody", "(I)Z"⟩) ∈ g_tbl := tm_6 (List.mem_of_getElem? (i := 135) rfl) rfl
theorem mw_6_137 : (Cond.instanceMethod ⟨"OneLampModel", "isBody", "(I)Z"⟩) ∈ g_tbl := tm_6 (List.mem_of_getElem? (i := 137) rfl) rfl
theorem mw_6_138 : (Cond.code ⟨"OneLampModel", "isBody", "(I)Z"⟩ prog_13_method_75_code 2 (Option.some .boolean)) ∈ g_tbl := tm_6 (List.mem_of_getElem? (i := 138) rfl) rfl
theorem mw_6_139 : (Cond.methodLink "OneLampModel" 367 ⟨"OneLampModel", "lighting", "(II)I"⟩) ∈ g_tbl := tm_6 (List.mem_of_getElem? (i := 139) rfl) rfl
theorem mw_6_141 : (Cond.instanceMethod ⟨"OneLampModel", "lighting", "(II)I"⟩) ∈ g_tbl := tm_6 (List.mem_of_getElem? (i := 141) rfl) rfl
theorem mw_6_142 : (Cond.code ⟨"OneLampModel", "lighting", "(II)I"⟩ prog_13_method_82_code 3 (Option.some .int)) ∈ g_tbl := tm_6 (List.mem_of_getElem? (i := 142) rfl) rfl
theorem mw_6_143 : (Cond.methodLink "OneLampModel" 360 ⟨"OneLampModel", "isUnder", "(II)Z"⟩) ∈ g_tbl := tm_6 (List.mem_of_getElem? (i := 143) rfl) rfl
theorem mw_6_144 : (Cond.static ⟨"OneLampModel", "isUnder", "(II)Z"⟩) ∈ g_tbl := tm_6 (List.mem_of_getElem? (i := 144) rfl) rfl
theorem mw_6_145 : (Cond.code ⟨"OneLampModel", "isUnder", "(II)Z"⟩ prog_13_method_79_code 2 (Option.some .boolean)) ∈ g_tbl := tm_6 (List.mem_of_getElem? (i := 145) rfl) rfl
theorem mw_6_146 : (Cond.methodLink "OneLampModel" 354 ⟨"OneLampModel", "ran", "(I)V"⟩) ∈ g_tbl := tm_6 (List.mem_of_getElem? (i := 146) rfl) rfl
theorem mw_6_148 : (Cond.instanceMethod ⟨"OneLampModel", "ran", "(I)V"⟩) ∈ g_tbl := tm_6 (List.mem_of_getElem? (i := 148) rfl) rfl
theorem mw_6_149 : (Cond.code ⟨"OneLampModel", "ran", "(I)V"⟩ prog_13_method_76_code 2 (Option.none : Option Jvm.ClassFile.FieldType)) ∈ g_tbl := tm_6 (List.mem_of_getElem? (i := 149) rfl) rfl
theorem mw_6_150 : (Cond.methodLink "OneLampModel" 357 ⟨"OneLampModel", "plainLights", "(II)I"⟩) ∈ g_tbl := tm_6 (List.mem_of_getElem? (i := 150) rfl) rfl
theorem mw_6_152 : (Cond.instanceMethod ⟨"OneLampModel", "plainLights", "(II)I"⟩) ∈ g_tbl := tm_6 (List.mem_of_getElem? (i := 152) rfl) rfl
theorem mw_6_153 : (Cond.code ⟨"OneLampModel", "plainLights", "(II)I"⟩ prog_13_method_80_code 3 (Option.some .int)) ∈ g_tbl := tm_6 (List.mem_of_getElem? (i := 153) rfl) rfl
theorem mw_6_154 : (Cond.methodLink "OneLampModel" 364 ⟨"OneLampModel", "toldLights", "(II)I"⟩) ∈ g_tbl := tm_6 (List.mem_of_getElem? (i := 154) rfl) rfl
theorem mw_6_156 : (Cond.instanceMethod ⟨"OneLampModel", "toldLights", "(II)I"⟩) ∈ g_tbl := tm_6 (List.mem_of_getElem? (i := 156) rfl) rfl
theorem mw_6_157 : (Cond.code ⟨"OneLampModel", "toldLights", "(II)I"⟩ prog_13_method_81_code 3 (Option.some .int)) ∈ g_tbl := tm_6 (List.mem_of_getElem? (i := 157) rfl) rfl
theorem mw_6_158 : (Cond.methodLink "OneLampModel" 382 ⟨"OneLampModel", "showing", "(II)I"⟩) ∈ g_tbl := tm_6 (List.mem_of_getElem? (i := 158) rfl) rfl
theorem mw_6_160 : (Cond.instanceMethod ⟨"OneLampModel", "showing", "(II)I"⟩) ∈ g_tbl := tm_6 (List.mem_of_getElem? (i := 160) rfl) rfl
theorem mw_6_161 : (Cond.code ⟨"OneLampModel", "showing", "(II)I"⟩ prog_13_method_85_code 4 (Option.some .int)) ∈ g_tbl := tm_6 (List.mem_of_getElem? (i := 161) rfl) rfl
theorem mw_6_162 : (Cond.methodLink "OneLampModel" 373 ⟨"OneLampModel", "evenShows", "(II)I"⟩) ∈ g_tbl := tm_6 (List.mem_of_getElem? (i := 162) rfl) rfl
theorem mw_6_164 : (Cond.instanceMethod ⟨"OneLampModel", "evenShows", "(II)I"⟩) ∈ g_tbl := tm_6 (List.mem_of_getElem? (i := 164) rfl) rfl
theorem mw_6_165 : (Cond.code ⟨"OneLampModel", "evenShows", "(II)I"⟩ prog_13_method_84_code 3 (Option.some .int)) ∈ g_tbl := tm_6 (List.mem_of_getElem? (i := 165) rfl) rfl
theorem mw_6_166 : (Cond.methodLink "OneLampModel" 370 ⟨"OneLampModel", "plainShows", "(II)I"⟩) ∈ g_tbl := tm_6 (List.mem_of_getElem? (i := 166) rfl) rfl
theorem mw_6_168 : (Cond.instanceMethod ⟨"OneLampModel", "plainShows", "(II)I"⟩) ∈ g_tbl := tm_6 (List.mem_of_getElem? (i := 168) rfl) rfl
theorem mw_6_169 : (Cond.code ⟨"OneLampModel", "plainShows", "(II)I"⟩ prog_13_method_83_code 3 (Option.some .int)) ∈ g_tbl := tm_6 (List.mem_of_getElem? (i := 169) rfl) rfl
theorem mw_6_170 : (Cond.methodLink "OneLampModel" 376 ⟨"OneLampModel", "resting", "(II)I"⟩) ∈ g_tbl := tm_6 (List.mem_of_getElem? (i := 170) rfl) rfl
theorem mw_6_172 : (Cond.instanceMethod ⟨"OneLampModel", "resting", "(II)I"⟩) ∈ g_tbl := tm_6 (List.mem_of_getElem? (i := 172) rfl) rfl
theorem mw_6_173 : (Cond.code ⟨"OneLampModel", "resting", "(II)I"⟩ prog_13_method_87_code 4 (Option.some .int)) ∈ g_tbl := tm_6 (List.mem_of_getElem? (i := 173) rfl) rfl
theorem mw_6_174 : (Cond.methodLink "OneLampModel" 379 ⟨"OneLampModel", "plainRests", "(II)I"⟩) ∈ g_tbl := tm_6 (List.mem_of_getElem? (i := 174) rfl) rfl
theorem mw_6_176 : (Cond.instanceMethod ⟨"OneLampModel", "plainRests", "(II)I"⟩) ∈ g_tbl := tm_6 (List.mem_of_getElem? (i := 176) rfl) rfl
theorem mw_6_177 : (Cond.code ⟨"OneLampModel", "plainRests", "(II)I"⟩ prog_13_method_86_code 3 (Option.some .int)) ∈ g_tbl := tm_6 (List.mem_of_getElem? (i := 177) rfl) rfl
theorem mw_6_178 : (Cond.methodLink "OneLampModel" 394 ⟨"OneLampModel", "telling", "(II)I"⟩) ∈ g_tbl := tm_6 (List.mem_of_getElem? (i := 178) rfl) rfl
theorem mw_6_180 : (Cond.instanceMethod ⟨"OneLampModel", "telling", "(II)I"⟩) ∈ g_tbl := tm_6 (List.mem_of_getElem? (i := 180) rfl) rfl
theorem mw_6_181 : (Cond.code ⟨"OneLampModel", "telling", "(II)I"⟩ prog_13_method_90_code 3 (Option.some .int)) ∈ g_tbl := tm_6 (List.mem_of_getElem? (i := 181) rfl) rfl
theorem mw_6_182 : (Cond.methodLink "OneLampModel" 388 ⟨"OneLampModel", "ruleTells", "(II)I"⟩) ∈ g_tbl := tm_6 (List.mem_of_getElem? (i := 182) rfl) rfl
theorem mw_6_184 : (Cond.instanceMethod ⟨"OneLampModel", "ruleTells", "(II)I"⟩) ∈ g_tbl := tm_6 (List.mem_of_getElem? (i := 184) rfl) rfl
theorem mw_6_185 : (Cond.code ⟨"OneLampModel", "ruleTells", "(II)I"⟩ prog_13_method_89_code 3 (Option.some .int)) ∈ g_tbl := tm_6 (List.mem_of_getElem? (i := 185) rfl) rfl
theorem mw_6_186 : (Cond.methodLink "OneLampModel" 385 ⟨"OneLampModel", "plainTells", "(II)I"⟩) ∈ g_tbl := tm_6 (List.mem_of_getElem? (i := 186) rfl) rfl
theorem mw_6_188 : (Cond.instanceMethod ⟨"OneLampModel", "plainTells", "(II)I"⟩) ∈ g_tbl := tm_6 (List.mem_of_getElem? (i := 188) rfl) rfl
theorem mw_6_189 : (Cond.code ⟨"OneLampModel", "plainTells", "(II)I"⟩ prog_13_method_88_code 4 (Option.some .int)) ∈ g_tbl := tm_6 (List.mem_of_getElem? (i := 189) rfl) rfl
theorem mw_6_190 : (Cond.methodLink "OneLampLaw" 163 ⟨"OneLampModel", "count", "(I)I"⟩) ∈ g_tbl := tm_6 (List.mem_of_getElem? (i := 190) rfl) rfl
theorem mw_6_191 : (Cond.instanceMethod ⟨"OneLampModel", "count", "(I)I"⟩) ∈ g_tbl := tm_6 (List.mem_of_getElem? (i := 191) rfl) rfl
theorem mw_6_192 : (Cond.selects "OneLampModel" ⟨"OneLampModel", "count", "(I)I"⟩ ⟨"OneLampModel", "count", "(I)I"⟩) ∈ g_tbl := tm_6 (List.mem_of_getElem? (i := 192) rfl) rfl
theorem mw_6_193 : (Cond.code ⟨"OneLampModel", "count", "(I)I"⟩ prog_13_method_93_code 2 (Option.some .int)) ∈ g_tbl := tm_6 (List.mem_of_getElem? (i := 193) rfl) rfl
theorem mw_6_194 : (Cond.methodLink "OneLampModel" 397 ⟨"OneLampModel", "toldMany", "()I"⟩) ∈ g_tbl := tm_6 (List.mem_of_getElem? (i := 194) rfl) rfl
theorem mw_6_196 : (Cond.instanceMethod ⟨"OneLampModel", "toldMany", "()I"⟩) ∈ g_tbl := tm_6 (List.mem_of_getElem? (i := 196) rfl) rfl
theorem mw_6_197 : (Cond.code ⟨"OneLampModel", "toldMany", "()I"⟩ prog_13_method_92_code 3 (Option.some .int)) ∈ g_tbl := tm_6 (List.mem_of_getElem? (i := 197) rfl) rfl
theorem mw_6_198 : (Cond.methodLink "OneLampLaw" 136 ⟨"OneLampModel", "keep", "(II)I"⟩) ∈ g_tbl := tm_6 (List.mem_of_getElem? (i := 198) rfl) rfl
theorem mw_6_199 : (Cond.instanceMethod ⟨"OneLampModel", "keep", "(II)I"⟩) ∈ g_tbl := tm_6 (List.mem_of_getElem? (i := 199) rfl) rfl
theorem mw_6_200 : (Cond.selects "OneLampModel" ⟨"OneLampModel", "keep", "(II)I"⟩ ⟨"OneLampModel", "keep", "(II)I"⟩) ∈ g_tbl := tm_6 (List.mem_of_getElem? (i := 200) rfl) rfl
theorem mw_6_201 : (Cond.code ⟨"OneLampModel", "keep", "(II)I"⟩ prog_13_method_95_code 3 (Option.some .int)) ∈ g_tbl := tm_6 (List.mem_of_getElem? (i := 201) rfl) rfl
theorem mw_6_202 : (Cond.methodLink "OneLampLaw" 140 ⟨"OneLampModel", "row", "(III)I"⟩) ∈ g_tbl := tm_6 (List.mem_of_getElem? (i := 202) rfl) rfl
theorem mw_6_203 : (Cond.instanceMethod ⟨"OneLampModel", "row", "(III)I"⟩) ∈ g_tbl := tm_6 (List.mem_of_getElem? (i := 203) rfl) rfl
theorem mw_6_204 : (Cond.selects "OneLampModel" ⟨"OneLampModel", "row", "(III)I"⟩ ⟨"OneLampModel", "row", "(III)I"⟩) ∈ g_tbl := tm_6 (List.mem_of_getElem? (i := 204) rfl) rfl
theorem mw_6_205 : (Cond.code ⟨"OneLampModel", "row", "(III)I"⟩ prog_13_method_96_code 5 (Option.some .int)) ∈ g_tbl := tm_6 (List.mem_of_getElem? (i := 205) rfl) rfl
theorem mw_6_206 : (Cond.methodLink "OneLampLaw" 145 ⟨"OneLampModel", "put", "(IIJ)I"⟩) ∈ g_tbl := tm_6 (List.mem_of_getElem? (i := 206) rfl) rfl
theorem mw_6_207 : (Cond.instanceMethod ⟨"OneLampModel", "put", "(IIJ)I"⟩) ∈ g_tbl := tm_6 (List.mem_of_getElem? (i := 207) rfl) rfl
theorem mw_6_208 : (Cond.selects "OneLampModel" ⟨"OneLampModel", "put", "(IIJ)I"⟩ ⟨"OneLampModel", "put", "(IIJ)I"⟩) ∈ g_tbl := tm_6 (List.mem_of_getElem? (i := 208) rfl) rfl
theorem mw_6_209 : (Cond.code ⟨"OneLampModel", "put", "(IIJ)I"⟩ prog_13_method_98_code 7 (Option.some .int)) ∈ g_tbl := tm_6 (List.mem_of_getElem? (i := 209) rfl) rfl
theorem mw_6_210 : (Cond.methodLink "OneLampModel" 400 ⟨"OneLampModel", "whyNoPlace", "(II)I"⟩) ∈ g_tbl := tm_6 (List.mem_of_getElem? (i := 210) rfl) rfl
theorem mw_6_212 : (Cond.instanceMethod ⟨"OneLampModel", "whyNoPlace", "(II)I"⟩) ∈ g_tbl := tm_6 (List.mem_of_getElem? (i := 212) rfl) rfl
theorem mw_6_213 : (Cond.code ⟨"OneLampModel", "whyNoPlace", "(II)I"⟩ prog_13_method_97_code 3 (Option.some .int)) ∈ g_tbl := tm_6 (List.mem_of_getElem? (i := 213) rfl) rfl
theorem mw_6_214 : (Cond.methodLink "OneLampLaw" 150 ⟨"OneLampModel", "element", "(II)J"⟩) ∈ g_tbl := tm_6 (List.mem_of_getElem? (i := 214) rfl) rfl
theorem mw_6_215 : (Cond.instanceMethod ⟨"OneLampModel", "element", "(II)J"⟩) ∈ g_tbl := tm_6 (List.mem_of_getElem? (i := 215) rfl) rfl
theorem mw_6_216 : (Cond.selects "OneLampModel" ⟨"OneLampModel", "element", "(II)J"⟩ ⟨"OneLampModel", "element", "(II)J"⟩) ∈ g_tbl := tm_6 (List.mem_of_getElem? (i := 216) rfl) rfl
theorem mw_6_217 : (Cond.code ⟨"OneLampModel", "element", "(II)J"⟩ prog_13_method_99_code 3 (Option.some .long)) ∈ g_tbl := tm_6 (List.mem_of_getElem? (i := 217) rfl) rfl
theorem mw_6_218 : (Cond.constantLong "OneLampModel" 405 (-9223372036854775808)) ∈ g_tbl := tm_6 (List.mem_of_getElem? (i := 218) rfl) rfl
theorem mw_6_219 : (Cond.methodLink "OneLampLaw" 155 ⟨"OneLampModel", "shift", "(IIIII)I"⟩) ∈ g_tbl := tm_6 (List.mem_of_getElem? (i := 219) rfl) rfl
theorem mw_6_220 : (Cond.instanceMethod ⟨"OneLampModel", "shift", "(IIIII)I"⟩) ∈ g_tbl := tm_6 (List.mem_of_getElem? (i := 220) rfl) rfl
theorem mw_6_221 : (Cond.selects "OneLampModel" ⟨"OneLampModel", "shift", "(IIIII)I"⟩ ⟨"OneLampModel", "shift", "(IIIII)I"⟩) ∈ g_tbl := tm_6 (List.mem_of_getElem? (i := 221) rfl) rfl
theorem mw_6_222 : (Cond.code ⟨"OneLampModel", "shift", "(IIIII)I"⟩ prog_13_method_100_code 7 (Option.some .int)) ∈ g_tbl := tm_6 (List.mem_of_getElem? (i := 222) rfl) rfl
theorem mw_6_223 : (Cond.methodLink "OneLampLaw" 159 ⟨"OneLampModel", "taken", "(II)I"⟩) ∈ g_tbl := tm_6 (List.mem_of_getElem? (i := 223) rfl) rfl
theorem mw_6_224 : (Cond.instanceMethod ⟨"OneLampModel", "taken", "(II)I"⟩) ∈ g_tbl := tm_6 (List.mem_of_getElem? (i := 224) rfl) rfl
theorem mw_6_225 : (Cond.selects "OneLampModel" ⟨"OneLampModel", "taken", "(II)I"⟩ ⟨"OneLampModel", "taken", "(II)I"⟩) ∈ g_tbl := tm_6 (List.mem_of_getElem? (i := 225) rfl) rfl
theorem mw_6_226 : (Cond.code ⟨"OneLampModel", "taken", "(II)I"⟩ prog_13_method_101_code 3 (Option.some .int)) ∈ g_tbl := tm_6 (List.mem_of_getElem? (i := 226) rfl) rfl
theorem mw_6_227 : (Cond.constantLong "OneLampLaw" 89 4294967295) ∈ g_tbl := tm_6 (List.mem_of_getElem? (i := 227) rfl) rfl
abbrev A_I (dA : Nat → ClassId) (a n : Nat) (f : Nat → Int32) : Nat × va_E := (a, .inl (dA 0, n, .inl f))
abbrev A_J (dA : Nat → ClassId) (a n : Nat) (f : Nat → Int64) : Nat × va_E := (a, .inl (dA 1, n, .inr (.inl f)))
abbrev A_Z (dA : Nat → ClassId) (a n : Nat) (f : Nat → Int32) : Nat × va_E := (a, .inl (dA 2, n, .inl f))
abbrev A_B (dA : Nat → ClassId) (a n : Nat) (f : Nat → Int32) : Nat × va_E := (a, .inl (dA 3, n, .inl f))
abbrev A_S (dA : Nat → ClassId) (a n : Nat) (f : Nat → Int32) : Nat × va_E := (a, .inl (dA 4, n, .inl f))
abbrev A_Q (dA : Nat → ClassId) (a n : Nat) (f : Nat → Option Nat) : Nat × va_E := (a, .inl (dA 5, n, .inr (.inr (.inr (.inr f)))))
abbrev O_OL (a : Nat) (x0 : Nat) (x1 : Nat) (x2 : Bool) (x3 : Nat) (x4 : Nat) (x5 : Nat) (x6 : Nat) (x7 : Nat) (x8 : Nat) : Nat × va_E := (a, .inr (0, [.ref x0, .ref x1, .int (b2i x2), .ref x3, .ref x4, .ref x5, .ref x6, .ref x7, .ref x8]))
abbrev O_Wa (a : Nat) (x0 : Int32) (x1 : Int32) (x2 : Int32) (x3 : Int32) (x4 : Nat) (x5 : Nat) (x6 : Nat) (x7 : Nat) : Nat × va_E := (a, .inr (1, [.int x0, .int x1, .int x2, .int x3, .ref x4, .ref x5, .ref x6, .ref x7]))
abbrev O_Pi (a : Nat) (x0 : Nat) : Nat × va_E := (a, .inr (2, [.ref x0]))
abbrev O_Ru (a : Nat) (x0 : Int32) (x1 : Int32) (x2 : Nat) (x3 : Nat) (x4 : Nat) (x5 : Int32) : Nat × va_E := (a, .inr (3, [.int x0, .int x1, .ref x2, .ref x3, .ref x4, .int x5]))
abbrev O_La (a : Nat) (x0 : Nat) (x1 : Int32) (x2 : Nat) (x3 : Int32) : Nat × va_E := (a, .inr (4, [.ref x0, .int x1, .ref x2, .int x3]))
abbrev O_Ta (a : Nat) (x0 : Nat) (x1 : Int32) (x2 : Nat) (x3 : Int32) (x4 : Int32) : Nat × va_E := (a, .inr (5, [.ref x0, .int x1, .ref x2, .int x3, .int x4]))
abbrev O_Co (a : Nat) (x0 : Nat) (x1 : Nat) (x2 : Nat) (x3 : Nat) (x4 : Nat) (x5 : Int32) (x6 : Int32) : Nat × va_E := (a, .inr (6, [.ref x0, .ref x1, .ref x2, .ref x3, .ref x4, .int x5, .int x6]))
abbrev O_Th (a : Nat) (x0 : Nat) (x1 : Nat) (x2 : Nat) (x3 : Int32) (x4 : Int32) (x5 : Int32) : Nat × va_E := (a, .inr (7, [.ref x0, .ref x1, .ref x2, .int x3, .int x4, .int x5]))
abbrev O_Ac (a : Nat) (x0 : Nat) (x1 : Int32) (x2 : Nat) (x3 : Int32) (x4 : Int32) : Nat × va_E := (a, .inr (8, [.ref x0, .int x1, .ref x2, .int x3, .int x4]))
abbrev O_Sh (a : Nat) (x0 : Int32) (x1 : Int32) (x2 : Int32) (x3 : Int32) (x4 : Nat) : Nat × va_E := (a, .inr (9, [.int x0, .int x1, .int x2, .int x3, .ref x4]))
abbrev O_Mo (a : Nat) (x0 : Int32) (x1 : Int32) (x2 : Int32) (x3 : Int32) (x4 : Int32) (x5 : Int32) (x6 : Int32) (x7 : Nat) (x8 : Nat) (x9 : Nat) (x10 : Nat) (x11 : Nat) (x12 : Nat) (x13 : Bool) (x14 : Int32) (x15 : Int32) (x16 : Nat) (x17 : Nat) (x18 : Nat) (x19 : Nat) (x20 : Nat) (x21 : Int32) (x22 : Int32) (x23 : Int32) (x24 : Int32) (x25 : Int32) (x26 : Nat) (x27 : Nat) (x28 : Nat) (x29 : Nat) (x30 : Nat) (x31 : Nat) (x32 : Nat) (x33 : Bool) (x34 : Nat) (x35 : Nat) (x36 : Int32) (x37 : Nat) (x38 : Nat) (x39 : Int32) (x40 : Int32) (x41 : Bool) (x42 : Int32) (x43 : Int32) (x44 : Int32) (x45 : Int32) (x46 : Nat) (x47 : Nat) (x48 : Nat) (x49 : Nat) (x50 : Int32) (x51 : Nat) (x52 : Int32) (x53 : Nat) (x54 : Nat) (x55 : Nat) (x56 : Nat) (x57 : Nat) : Nat × va_E := (a, .inr (10, [.int x0, .int x1, .int x2, .int x3, .int x4, .int x5, .int x6, .ref x7, .ref x8, .ref x9, .ref x10, .ref x11, .ref x12, .int (b2i x13), .int x14, .int x15, .ref x16, .ref x17, .ref x18, .ref x19, .ref x20, .int x21, .int x22, .int x23, .int x24, .int x25, .ref x26, .ref x27, .ref x28, .ref x29, .ref x30, .ref x31, .ref x32, .int (b2i x33), .ref x34, .ref x35, .int x36, .ref x37, .ref x38, .int x39, .int x40, .int (b2i x41), .int x42, .int x43, .int x44, .int x45, .ref x46, .ref x47, .ref x48, .ref x49, .int x50, .ref x51, .int x52, .ref x53, .ref x54, .ref x55, .ref x56, .ref x57]))
theorem kf_OL : KF 0 "OneLamp" T_OL 9 t_OL := by
  refine ⟨rfl, ?_, by decide +kernel, by decide +kernel⟩
  intro w hw
  obtain ⟨i, hi, rfl⟩ := List.mem_map.mp hw
  rw [List.mem_range] at hi
  match i, hi with
  | 0, _ => exact mw_2_53
  | 1, _ => exact mw_2_55
  | 2, _ => exact mw_2_57
  | 3, _ => exact mw_2_59
  | 4, _ => exact mw_2_61
  | 5, _ => exact mw_2_63
  | 6, _ => exact mw_2_65
  | 7, _ => exact mw_2_67
  | 8, _ => exact mw_2_69
  | k + 9, h => exact absurd h (by omega)
theorem kf_Wa : KF 1 "OneLamp$Wall" T_Wa 8 t_Wa := by
  refine ⟨rfl, ?_, by decide +kernel, by decide +kernel⟩
  intro w hw
  obtain ⟨i, hi, rfl⟩ := List.mem_map.mp hw
  rw [List.mem_range] at hi
  match i, hi with
  | 0, _ => exact mw_1_85
  | 1, _ => exact mw_1_87
  | 2, _ => exact mw_1_89
  | 3, _ => exact mw_1_91
  | 4, _ => exact mw_1_93
  | 5, _ => exact mw_1_95
  | 6, _ => exact mw_1_97
  | 7, _ => exact mw_1_99
  | k + 8, h => exact absurd h (by omega)
theorem kf_Pi : KF 2 "OneLamp$Pictures" T_Pi 1 t_Pi := by
  refine ⟨rfl, ?_, by decide +kernel, by decide +kernel⟩
  intro w hw
  obtain ⟨i, hi, rfl⟩ := List.mem_map.mp hw
  rw [List.mem_range] at hi
  match i, hi with
  | 0, _ => exact mw_1_38
  | k + 1, h => exact absurd h (by omega)
theorem kf_Ru : KF 3 "OneLamp$Rules" T_Ru 6 t_Ru := by
  refine ⟨rfl, ?_, by decide +kernel, by decide +kernel⟩
  intro w hw
  obtain ⟨i, hi, rfl⟩ := List.mem_map.mp hw
  rw [List.mem_range] at hi
  match i, hi with
  | 0, _ => exact mw_1_138
  | 1, _ => exact mw_1_140
  | 2, _ => exact mw_1_142
  | 3, _ => exact mw_1_144
  | 4, _ => exact mw_1_146
  | 5, _ => exact mw_1_148
  | k + 6, h => exact absurd h (by omega)
theorem kf_La : KF 4 "OneLamp$Law" T_La 4 t_La := by
  refine ⟨rfl, ?_, by decide +kernel, by decide +kernel⟩
  intro w hw
  obtain ⟨i, hi, rfl⟩ := List.mem_map.mp hw
  rw [List.mem_range] at hi
  match i, hi with
  | 0, _ => exact mw_1_119
  | 1, _ => exact mw_1_121
  | 2, _ => exact mw_1_123
  | 3, _ => exact mw_1_125
  | k + 4, h => exact absurd h (by omega)
theorem kf_Ta : KF 5 "OneLamp$Tape" T_Ta 5 t_Ta := by
  refine ⟨rfl, ?_, by decide +kernel, by decide +kernel⟩
  intro w hw
  obtain ⟨i, hi, rfl⟩ := List.mem_map.mp hw
  rw [List.mem_range] at hi
  match i, hi with
  | 0, _ => exact mw_1_165
  | 1, _ => exact mw_1_167
  | 2, _ => exact mw_1_169
  | 3, _ => exact mw_1_171
  | 4, _ => exact mw_1_173
  | k + 5, h => exact absurd h (by omega)
theorem kf_Co : KF 6 "OneLamp$Costs" T_Co 7 t_Co := by
  refine ⟨rfl, ?_, by decide +kernel, by decide +kernel⟩
  intro w hw
  obtain ⟨i, hi, rfl⟩ := List.mem_map.mp hw
  rw [List.mem_range] at hi
  match i, hi with
  | 0, _ => exact mw_1_192
  | 1, _ => exact mw_1_194
  | 2, _ => exact mw_1_196
  | 3, _ => exact mw_1_198
  | 4, _ => exact mw_1_200
  | 5, _ => exact mw_1_202
  | 6, _ => exact mw_1_204
  | k + 7, h => exact absurd h (by omega)
theorem kf_Th : KF 7 "OneLamp$Thought" T_Th 6 t_Th := by
  refine ⟨rfl, ?_, by decide +kernel, by decide +kernel⟩
  intro w hw
  obtain ⟨i, hi, rfl⟩ := List.mem_map.mp hw
  rw [List.mem_range] at hi
  match i, hi with
  | 0, _ => exact mw_1_221
  | 1, _ => exact mw_1_223
  | 2, _ => exact mw_1_225
  | 3, _ => exact mw_1_227
  | 4, _ => exact mw_1_229
  | 5, _ => exact mw_1_231
  | k + 6, h => exact absurd h (by omega)
theorem kf_Ac : KF 8 "OneLamp$Acts" T_Ac 5 t_Ac := by
  refine ⟨rfl, ?_, by decide +kernel, by decide +kernel⟩
  intro w hw
  obtain ⟨i, hi, rfl⟩ := List.mem_map.mp hw
  rw [List.mem_range] at hi
  match i, hi with
  | 0, _ => exact mw_2_7
  | 1, _ => exact mw_2_9
  | 2, _ => exact mw_2_11
  | 3, _ => exact mw_2_13
  | 4, _ => exact mw_2_15
  | k + 5, h => exact absurd h (by omega)
theorem kf_Sh : KF 9 "OneLamp$Shelf" T_Sh 5 t_Sh := by
  refine ⟨rfl, ?_, by decide +kernel, by decide +kernel⟩
  intro w hw
  obtain ⟨i, hi, rfl⟩ := List.mem_map.mp hw
  rw [List.mem_range] at hi
  match i, hi with
  | 0, _ => exact mw_2_33
  | 1, _ => exact mw_2_35
  | 2, _ => exact mw_2_37
  | 3, _ => exact mw_2_39
  | 4, _ => exact mw_2_41
  | k + 5, h => exact absurd h (by omega)
theorem kf_Mo : KF 10 "OneLampModel" T_Mo 58 t_Mo := by
  refine ⟨rfl, ?_, by decide +kernel, by decide +kernel⟩
  intro w hw
  obtain ⟨i, hi, rfl⟩ := List.mem_map.mp hw
  rw [List.mem_range] at hi
  match i, hi with
  | 0, _ => exact mw_4_196
  | 1, _ => exact mw_4_198
  | 2, _ => exact mw_4_200
  | 3, _ => exact mw_4_202
  | 4, _ => exact mw_4_204
  | 5, _ => exact mw_4_206
  | 6, _ => exact mw_4_208
  | 7, _ => exact mw_4_210
  | 8, _ => exact mw_4_212
  | 9, _ => exact mw_4_214
  | 10, _ => exact mw_4_216
  | 11, _ => exact mw_4_218
  | 12, _ => exact mw_4_220
  | 13, _ => exact mw_4_222
  | 14, _ => exact mw_4_224
  | 15, _ => exact mw_4_226
  | 16, _ => exact mw_4_228
  | 17, _ => exact mw_4_230
  | 18, _ => exact mw_4_232
  | 19, _ => exact mw_4_234
  | 20, _ => exact mw_4_236
  | 21, _ => exact mw_4_238
  | 22, _ => exact mw_5_0
  | 23, _ => exact mw_5_2
  | 24, _ => exact mw_5_4
  | 25, _ => exact mw_5_6
  | 26, _ => exact mw_5_8
  | 27, _ => exact mw_5_10
  | 28, _ => exact mw_5_12
  | 29, _ => exact mw_5_14
  | 30, _ => exact mw_5_16
  | 31, _ => exact mw_5_18
  | 32, _ => exact mw_5_20
  | 33, _ => exact mw_5_22
  | 34, _ => exact mw_5_24
  | 35, _ => exact mw_5_26
  | 36, _ => exact mw_5_28
  | 37, _ => exact mw_5_30
  | 38, _ => exact mw_5_32
  | 39, _ => exact mw_5_34
  | 40, _ => exact mw_5_36
  | 41, _ => exact mw_5_38
  | 42, _ => exact mw_5_40
  | 43, _ => exact mw_5_42
  | 44, _ => exact mw_5_44
  | 45, _ => exact mw_5_46
  | 46, _ => exact mw_5_48
  | 47, _ => exact mw_5_50
  | 48, _ => exact mw_5_52
  | 49, _ => exact mw_5_54
  | 50, _ => exact mw_5_56
  | 51, _ => exact mw_5_58
  | 52, _ => exact mw_5_60
  | 53, _ => exact mw_5_62
  | 54, _ => exact mw_5_64
  | 55, _ => exact mw_5_66
  | 56, _ => exact mw_5_68
  | 57, _ => exact mw_5_70
  | k + 58, h => exact absurd h (by omega)
