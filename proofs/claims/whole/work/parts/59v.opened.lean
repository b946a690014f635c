/-! PURE: a text read: an operand -/
theorem name_none {x : Int32} (h1 : (x = nI 104) = False) (h2 : (x = nI 108) = False) (h3 : (x = nI 110) = False) (h4 : (x = nI 112) = False) : f_Mo_nameOf x = some (-nI 1) := by
  unfold f_Mo_nameOf
  rw [if_neg (show ¬ x = (104 : Int32) from of_eq_false h1), if_neg (show ¬ x = (108 : Int32) from of_eq_false h2), if_neg (show ¬ x = (110 : Int32) from of_eq_false h3), if_neg (show ¬ x = (112 : Int32) from of_eq_false h4)]
  rfl
theorem fig_none {k i ld : Nat} {tape : Nat → Int32} {lm : Int32} (s2 : f_Mo_look (nI k) (nI i) tape = some lm) (d2 : f_Mo_in lm (nI 48) (nI 57) = some false) (hld : ld < 130) (act wi : Nat → Int32) : f_Mo_figure (nI k) (nI i) (-nI 1) (nI ld) tape act wi = some (nI i, nI i, nI (ld + 1), upd act (130 + ld) (nI 1), upd wi (130 + ld) (nI 0)) := by
  have hone : (nI 1).toInt8.toInt32 = nI 1 := rfl
  unfold f_Mo_figure
  rw [show (3000 : Nat) = 2999 + 1 from rfl, f_Mo_figure_L4, if_neg (by decide), s2, Option.bind_some, show (48 : Int32) = nI 48 from rfl, show (57 : Int32) = nI 57 from rfl, d2]
  show f_Mo_figure_L52 0 0 (nI k) (nI i) (-nI 1) (nI ld) tape act wi = _
  unfold f_Mo_figure_L52 f_Mo_figure_L70 f_Mo_figure_L74 f_Mo_faulty
  rw [show (1 : Int32) = nI 1 from rfl, mo_add hld, hone, if_pos rfl, if_neg (by decide)]
  rfl
theorem op_none {k i cl ld ow fo fM : Nat} {letters tape : Nat → Int32} {c : Nat → Nat} {lc lm : Int32} {recL : Int32 → Int32 → Int32 → Int32 → Int32 → (Nat → Int32) → (Nat → Int32) → Option (Bool × Int32 × Int32 × (Nat → Int32))} (hk : k ≤ 120) (hi : i ≤ k) (hld : ld ≤ i) (how : ow ≤ 6) (s1 : f_Ta_letter (nI k) (nI i) letters = some lc) (s2 : f_Mo_look (nI k) (nI i) tape = some lm) (d1 : f_Ta_isDigit lc = some false) (d2 : f_Mo_in lm (nI 48) (nI 57) = some false) (nc : ∀ x, x = 112 ∨ x = 108 ∨ x = 110 ∨ x = 104 ∨ x = 40 ∨ x = 33 ∨ x = 45 → (lc = nI x) = False) (nm : ∀ x, x = 112 ∨ x = 108 ∨ x = 110 ∨ x = 104 ∨ x = 40 ∨ x = 33 ∨ x = 45 → (lm = nI x) = False) (code act wi : Nat → Int32) : okF k c i ld act wi (f_Ta_readOperand recL (fo + 1) (nI ow) (nI k) (nI cl) (nI i) letters code) (f_Mo_operand (fM + 1) (nI k) (nI i) (-nI 1) (nI ow) (nI ld) tape act wi) := by
  have c112 := nc 112 (by decide)
  have m112 := nm 112 (by decide)
  have c108 := nc 108 (by decide)
  have m108 := nm 108 (by decide)
  have c110 := nc 110 (by decide)
  have m110 := nm 110 (by decide)
  have c104 := nc 104 (by decide)
  have m104 := nm 104 (by decide)
  have c40 := nc 40 (by decide)
  have m40 := nm 40 (by decide)
  have c33 := nc 33 (by decide)
  have m33 := nm 33 (by decide)
  have c45 := nc 45 (by decide)
  have m45 := nm 45 (by decide)
  have hn := name_none m104 m108 m110 m112
  have hfg := fig_none s2 d2 (show ld < 130 by omega) act wi
  refine ⟨i, i, ld + 1, false, nI cl, nI ow, code, upd act (130 + ld) (nI 1), upd wi (130 + ld) (nI 0), hi, hi, ⟨Nat.le_refl _, by omega⟩, by omega, ?_, fun z => (by cases z), ?_, fun j hj => ⟨pk_un (by omega), pk_un (by omega)⟩⟩
  · rw [f_Ta_readOperand, f_Ta_readOperand_body]
    by_cases ho : 6 ≤ ow
    · simp (disch := omega) only [n_lt, n_le, n_eq, n_cl, n_sub, nI_add, pk_mul, n_subL, n_Lsub, n_neN, n_Nne, n_leN, n_ltN, n_Nlt, n_Nle, le_T, le_F, lt_T, lt_F, eq_T, eq_F, true_or, or_true, false_or, or_false, true_and, and_true, false_and, and_false, and_self, or_self, not_true_eq_false, not_false_eq_true, decide_eq_true_eq, decide_true, decide_false, Bool.false_eq_true, Bool.true_eq_false, eq_self, ↓reduceIte, Option.bind_some, mo_in, lit_0, lit_1, lit_2, lit_3, lit_4, lit_5, lit_6, lit_7, lit_8, lit_9, lit_10, lit_11, lit_12, lit_13, lit_14, lit_15, lit_16, lit_20, lit_22, lit_24, lit_28, lit_30, lit_31, lit_32, lit_39, lit_40, lit_42, lit_48, lit_50, lit_57, lit_60, lit_61, lit_62, lit_63, lit_64, lit_100, lit_120, lit_121, lit_122, lit_128, lit_130, lit_255, lit_256, lit_360, lit_1024, lit_2147483647, m1_pred, Nat.add_sub_cancel, lit_124, lit_38, lit_37, lit_33, lit_126, lit_59, lit_112, lit_108, lit_110, lit_104, lit_47, lit_43, lit_45, lit_41, lit_123, lit_49, lit_58, lit_68, s1, d1, c112, c108, c110, c104, c40, c33, c45]
    · simp (disch := omega) only [n_lt, n_le, n_eq, n_cl, n_sub, nI_add, pk_mul, n_subL, n_Lsub, n_neN, n_Nne, n_leN, n_ltN, n_Nlt, n_Nle, le_T, le_F, lt_T, lt_F, eq_T, eq_F, true_or, or_true, false_or, or_false, true_and, and_true, false_and, and_false, and_self, or_self, not_true_eq_false, not_false_eq_true, decide_eq_true_eq, decide_true, decide_false, Bool.false_eq_true, Bool.true_eq_false, eq_self, ↓reduceIte, Option.bind_some, mo_in, lit_0, lit_1, lit_2, lit_3, lit_4, lit_5, lit_6, lit_7, lit_8, lit_9, lit_10, lit_11, lit_12, lit_13, lit_14, lit_15, lit_16, lit_20, lit_22, lit_24, lit_28, lit_30, lit_31, lit_32, lit_39, lit_40, lit_42, lit_48, lit_50, lit_57, lit_60, lit_61, lit_62, lit_63, lit_64, lit_100, lit_120, lit_121, lit_122, lit_128, lit_130, lit_255, lit_256, lit_360, lit_1024, lit_2147483647, m1_pred, Nat.add_sub_cancel, lit_124, lit_38, lit_37, lit_33, lit_126, lit_59, lit_112, lit_108, lit_110, lit_104, lit_47, lit_43, lit_45, lit_41, lit_123, lit_49, lit_58, lit_68, s1, d1, c112, c108, c110, c104, c40, c33, c45]
  · rw [f_Mo_operand, f_Mo_operand_body]
    simp (disch := omega) only [n_lt, n_le, n_eq, n_cl, n_sub, nI_add, pk_mul, n_subL, n_Lsub, n_neN, n_Nne, n_leN, n_ltN, n_Nlt, n_Nle, le_T, le_F, lt_T, lt_F, eq_T, eq_F, true_or, or_true, false_or, or_false, true_and, and_true, false_and, and_false, and_self, or_self, not_true_eq_false, not_false_eq_true, decide_eq_true_eq, decide_true, decide_false, Bool.false_eq_true, Bool.true_eq_false, eq_self, ↓reduceIte, Option.bind_some, mo_in, lit_0, lit_1, lit_2, lit_3, lit_4, lit_5, lit_6, lit_7, lit_8, lit_9, lit_10, lit_11, lit_12, lit_13, lit_14, lit_15, lit_16, lit_20, lit_22, lit_24, lit_28, lit_30, lit_31, lit_32, lit_39, lit_40, lit_42, lit_48, lit_50, lit_57, lit_60, lit_61, lit_62, lit_63, lit_64, lit_100, lit_120, lit_121, lit_122, lit_128, lit_130, lit_255, lit_256, lit_360, lit_1024, lit_2147483647, m1_pred, Nat.add_sub_cancel, lit_124, lit_38, lit_37, lit_33, lit_126, lit_59, lit_112, lit_108, lit_110, lit_104, lit_47, lit_43, lit_45, lit_41, lit_123, lit_49, lit_58, lit_68, s2, hn, hfg, m112, m108, m110, m104, m40, m33, m45]
theorem op_name : ∀ m, m < 128 → m = 112 ∨ m = 108 ∨ m = 110 ∨ m = 104 → f_Ta_isDigit (nI m) = some false ∧ lw_bin (-nI m) = false ∧ lw_un (-nI m) = false ∧ (-nI m = -112 ∨ -nI m = -108 ∨ -nI m = -110 ∨ -nI m = -104) ∧ (lw_alike (-nI m)).1 = nI 2 ∧ f_Mo_nameOf (nI m) = some (lw_alike (-nI m)).2 ∧ ((lw_alike (-nI m)).2 < 0) = False := by decide +kernel
theorem op_operand {k : Nat} {letters tape : Nat → Int32} {c : Nat → Nat} (hk : k ≤ 120) (hc : ∀ j, j < k → c j < 256 ∧ letters j = nI (c j) ∧ tape j = (nI (c j)).toInt8.toInt32) {recL : Int32 → Int32 → Int32 → Int32 → Int32 → (Nat → Int32) → (Nat → Int32) → Option (Bool × Int32 × Int32 × (Nat → Int32))} {ow fo fM : Nat} (how : ow ≤ 6) (sub0 : ow < 6 → PO k c (ow + 1) (fun cl at_ code => recL (nI 0) (nI (ow + 1)) (nI k) cl at_ letters code) (fun h f op la act wi => f_Mo_either (f_Mo_operand fM) (nI k) h f op la tape act wi)) (subO : ow < 6 → PO k c (ow + 1) (fun cl at_ code => f_Ta_readOperand recL fo (nI (ow + 1)) (nI k) cl at_ letters code) (fun h f op la act wi => f_Mo_operand fM (nI k) h f op la tape act wi)) : PO k c ow (fun cl at_ code => f_Ta_readOperand recL (fo + 1) (nI ow) (nI k) cl at_ letters code) (fun h f op la act wi => f_Mo_operand (fM + 1) (nI k) h f op la tape act wi) := by
  intro i cl ld code act wi hi hcl hld
  show (∃ e i', okS k i ow cl ld code act wi e i' (f_Ta_readOperand recL (fo + 1) (nI ow) (nI k) (nI cl) (nI i) letters code) (f_Mo_operand (fM + 1) (nI k) (nI i) (-nI 1) (nI ow) (nI ld) tape act wi)) ∨ okF k c i ld act wi (f_Ta_readOperand recL (fo + 1) (nI ow) (nI k) (nI cl) (nI i) letters code) (f_Mo_operand (fM + 1) (nI k) (nI i) (-nI 1) (nI ow) (nI ld) tape act wi)
  obtain ⟨lc, lm, s1, s2, s3⟩ := see hk hc hi
  rcases s3 with ⟨m, hm, hlt, hcm, rfl, rfl⟩ | ⟨o1, o2, _⟩
  rotate_left
  · exact Or.inr (op_none hk hi hld how s1 s2 (oth_digit o1).1 (oth_digit o2).2 (fun x hx => o1.1 x (by omega)) (fun x hx => o2.1 x (by omega)) code act wi)
  obtain ⟨dg1, dg2⟩ := dig hm
  by_cases hd : 48 ≤ m ∧ m ≤ 57
  · rw [decide_eq_true hd] at dg1 dg2
    obtain ⟨i', v', r1, r2, r3, r4, r5⟩ := num hk hc hcl hld hi code act wi 3 (m - 48) 1 (i + 1) 2999 2999 (by omega) (by omega) (by omega) (by omega) (by omega) (by omega) (by omega)
    have e0 : (nI 0 * 10 + nI m) - 48 = nI (m - 48) := by rw [num_stepT (by omega) hd.1 hd.2]; congr 1; omega
    have e1 : (10 * nI 0 + nI m) - 48 = nI (m - 48) := by rw [num_stepM (by omega) hd.1 hd.2]; congr 1; omega
    have a1 : f_Ta_readNumber (nI k) (nI cl) (nI i) letters code = some (nI (cl + 1), nI i', upd code cl (nI v')) := by
      unfold f_Ta_readNumber
      rw [show (3000 : Nat) = 2999 + 1 from rfl, f_Ta_readNumber_L4, if_neg (by decide), s1, Option.bind_some, dg1]
      simp only [Option.bind_some, if_true]
      rw [show (0 : Int32) * 10 + nI m - 48 = nI (m - 48) from e0, show (1 : Int32) = nI 1 from rfl, show (0 : Int32) = nI 0 from rfl, nI_add, nI_add]
      exact r4
    have a2 : f_Mo_figure (nI k) (nI i) (-nI 1) (nI ld) tape act wi = f_Mo_figure_L4 2999 (nI (m - 48)) (nI 1) (nI k) (nI (i + 1)) (-nI 1) (nI ld) tape act wi := by
      unfold f_Mo_figure
      rw [show (3000 : Nat) = 2999 + 1 from rfl, f_Mo_figure_L4, if_neg (by decide), s2, Option.bind_some, show f_Mo_in (nI m) 48 57 = some true from dg2]
      simp only [Option.bind_some, if_true]
      rw [show (10 : Int32) * 0 + nI m - 48 = nI (m - 48) from e1, show (1 : Int32) = nI 1 from rfl, show (0 : Int32) = nI 0 from rfl, nI_add, nI_add]
    have b1 : f_Ta_readOperand recL (fo + 1) (nI ow) (nI k) (nI cl) (nI i) letters code = some (true, nI (cl + 1), nI i', upd code cl (nI v')) := by
      rw [f_Ta_readOperand, f_Ta_readOperand_body, s1, Option.bind_some, dg1, Option.bind_some, if_pos rfl, a1]
      rfl
    have hn : f_Mo_nameOf (nI m) = some (-nI 1) := name_none (by rw [n_eq (by omega) (by omega)]; exact eq_false (by omega)) (by rw [n_eq (by omega) (by omega)]; exact eq_false (by omega)) (by rw [n_eq (by omega) (by omega)]; exact eq_false (by omega)) (by rw [n_eq (by omega) (by omega)]; exact eq_false (by omega))
    have b2 : ∀ x, f_Mo_figure (nI k) (nI i) (-nI 1) (nI ld) tape act wi = x → f_Mo_operand (fM + 1) (nI k) (nI i) (-nI 1) (nI ow) (nI ld) tape act wi = x.bind fun (u21, u22, u23, u24, u25) => some (u21, u22, nI ow, u23, u24, u25) := by
      intro x hx
      rw [f_Mo_operand, f_Mo_operand_body]
      simp (disch := omega) only [n_lt, n_le, n_eq, n_cl, n_sub, nI_add, pk_mul, n_subL, n_Lsub, n_neN, n_Nne, n_leN, n_ltN, n_Nlt, n_Nle, le_T, le_F, lt_T, lt_F, eq_T, eq_F, true_or, or_true, false_or, or_false, true_and, and_true, false_and, and_false, and_self, or_self, not_true_eq_false, not_false_eq_true, decide_eq_true_eq, decide_true, decide_false, Bool.false_eq_true, Bool.true_eq_false, eq_self, ↓reduceIte, Option.bind_some, mo_in, lit_0, lit_1, lit_2, lit_3, lit_4, lit_5, lit_6, lit_7, lit_8, lit_9, lit_10, lit_11, lit_12, lit_13, lit_14, lit_15, lit_16, lit_20, lit_22, lit_24, lit_28, lit_30, lit_31, lit_32, lit_39, lit_40, lit_42, lit_48, lit_50, lit_57, lit_60, lit_61, lit_62, lit_63, lit_64, lit_100, lit_120, lit_121, lit_122, lit_128, lit_130, lit_255, lit_256, lit_360, lit_1024, lit_2147483647, m1_pred, Nat.add_sub_cancel, lit_124, lit_38, lit_37, lit_33, lit_126, lit_59, lit_112, lit_108, lit_110, lit_104, lit_47, lit_43, lit_45, lit_41, lit_123, lit_49, lit_58, lit_68, s2, hn, hx]
    obtain ⟨n1, n2, n3, n4⟩ := sign_num r1
    rcases r5 with r5 | ⟨q1, q2, q3, r5⟩
    · refine Or.inl ⟨[nI v'], i', okE_one n3 n1 n2, by omega, r3, by simp; omega, _, _, _, b1, (b2 _ (a2.trans r5)).trans rfl, fun j hj => pk_un (by omega), ha_snoc (e := []) (fun j x hx => by simp at hx), fun j hj => ⟨pk_un (by omega), pk_un (by omega)⟩, hm_snoc (e := []) (fun j x hx => by simp at hx) n4⟩
    · refine Or.inr ⟨i', i', ld + 1, true, _, nI ow, _, _, _, r3, r3, ⟨by omega, by omega⟩, by omega, b1, fun _ => ⟨q1, q2, q3⟩, (b2 _ (a2.trans r5)).trans rfl, fun j hj => ⟨pk_un (by omega), pk_un (by omega)⟩⟩
  rw [decide_eq_false hd] at dg1 dg2
  by_cases hnm : m = 112 ∨ m = 108 ∨ m = 110 ∨ m = 104
  · obtain ⟨_, n1, n2, n3, n4, n5, n6⟩ := op_name m hm hnm
    have b1 : f_Ta_readOperand recL (fo + 1) (nI ow) (nI k) (nI cl) (nI i) letters code = some (true, nI (cl + 1), nI (i + 1), upd code cl (-nI m)) := by
      rw [f_Ta_readOperand, f_Ta_readOperand_body]
      rcases hnm with rfl | rfl | rfl | rfl
      · simp (disch := omega) only [n_lt, n_le, n_eq, n_cl, n_sub, nI_add, pk_mul, n_subL, n_Lsub, n_neN, n_Nne, n_leN, n_ltN, n_Nlt, n_Nle, le_T, le_F, lt_T, lt_F, eq_T, eq_F, true_or, or_true, false_or, or_false, true_and, and_true, false_and, and_false, and_self, or_self, not_true_eq_false, not_false_eq_true, decide_eq_true_eq, decide_true, decide_false, Bool.false_eq_true, Bool.true_eq_false, eq_self, ↓reduceIte, Option.bind_some, mo_in, lit_0, lit_1, lit_2, lit_3, lit_4, lit_5, lit_6, lit_7, lit_8, lit_9, lit_10, lit_11, lit_12, lit_13, lit_14, lit_15, lit_16, lit_20, lit_22, lit_24, lit_28, lit_30, lit_31, lit_32, lit_39, lit_40, lit_42, lit_48, lit_50, lit_57, lit_60, lit_61, lit_62, lit_63, lit_64, lit_100, lit_120, lit_121, lit_122, lit_128, lit_130, lit_255, lit_256, lit_360, lit_1024, lit_2147483647, m1_pred, Nat.add_sub_cancel, lit_124, lit_38, lit_37, lit_33, lit_126, lit_59, lit_112, lit_108, lit_110, lit_104, lit_47, lit_43, lit_45, lit_41, lit_123, lit_49, lit_58, lit_68, s1, dg1, f_Ta_readOperand_L42, ta_write (show cl < 256 by omega)]
      · simp (disch := omega) only [n_lt, n_le, n_eq, n_cl, n_sub, nI_add, pk_mul, n_subL, n_Lsub, n_neN, n_Nne, n_leN, n_ltN, n_Nlt, n_Nle, le_T, le_F, lt_T, lt_F, eq_T, eq_F, true_or, or_true, false_or, or_false, true_and, and_true, false_and, and_false, and_self, or_self, not_true_eq_false, not_false_eq_true, decide_eq_true_eq, decide_true, decide_false, Bool.false_eq_true, Bool.true_eq_false, eq_self, ↓reduceIte, Option.bind_some, mo_in, lit_0, lit_1, lit_2, lit_3, lit_4, lit_5, lit_6, lit_7, lit_8, lit_9, lit_10, lit_11, lit_12, lit_13, lit_14, lit_15, lit_16, lit_20, lit_22, lit_24, lit_28, lit_30, lit_31, lit_32, lit_39, lit_40, lit_42, lit_48, lit_50, lit_57, lit_60, lit_61, lit_62, lit_63, lit_64, lit_100, lit_120, lit_121, lit_122, lit_128, lit_130, lit_255, lit_256, lit_360, lit_1024, lit_2147483647, m1_pred, Nat.add_sub_cancel, lit_124, lit_38, lit_37, lit_33, lit_126, lit_59, lit_112, lit_108, lit_110, lit_104, lit_47, lit_43, lit_45, lit_41, lit_123, lit_49, lit_58, lit_68, s1, dg1, f_Ta_readOperand_L42, ta_write (show cl < 256 by omega)]
      · simp (disch := omega) only [n_lt, n_le, n_eq, n_cl, n_sub, nI_add, pk_mul, n_subL, n_Lsub, n_neN, n_Nne, n_leN, n_ltN, n_Nlt, n_Nle, le_T, le_F, lt_T, lt_F, eq_T, eq_F, true_or, or_true, false_or, or_false, true_and, and_true, false_and, and_false, and_self, or_self, not_true_eq_false, not_false_eq_true, decide_eq_true_eq, decide_true, decide_false, Bool.false_eq_true, Bool.true_eq_false, eq_self, ↓reduceIte, Option.bind_some, mo_in, lit_0, lit_1, lit_2, lit_3, lit_4, lit_5, lit_6, lit_7, lit_8, lit_9, lit_10, lit_11, lit_12, lit_13, lit_14, lit_15, lit_16, lit_20, lit_22, lit_24, lit_28, lit_30, lit_31, lit_32, lit_39, lit_40, lit_42, lit_48, lit_50, lit_57, lit_60, lit_61, lit_62, lit_63, lit_64, lit_100, lit_120, lit_121, lit_122, lit_128, lit_130, lit_255, lit_256, lit_360, lit_1024, lit_2147483647, m1_pred, Nat.add_sub_cancel, lit_124, lit_38, lit_37, lit_33, lit_126, lit_59, lit_112, lit_108, lit_110, lit_104, lit_47, lit_43, lit_45, lit_41, lit_123, lit_49, lit_58, lit_68, s1, dg1, f_Ta_readOperand_L42, ta_write (show cl < 256 by omega)]
      · simp (disch := omega) only [n_lt, n_le, n_eq, n_cl, n_sub, nI_add, pk_mul, n_subL, n_Lsub, n_neN, n_Nne, n_leN, n_ltN, n_Nlt, n_Nle, le_T, le_F, lt_T, lt_F, eq_T, eq_F, true_or, or_true, false_or, or_false, true_and, and_true, false_and, and_false, and_self, or_self, not_true_eq_false, not_false_eq_true, decide_eq_true_eq, decide_true, decide_false, Bool.false_eq_true, Bool.true_eq_false, eq_self, ↓reduceIte, Option.bind_some, mo_in, lit_0, lit_1, lit_2, lit_3, lit_4, lit_5, lit_6, lit_7, lit_8, lit_9, lit_10, lit_11, lit_12, lit_13, lit_14, lit_15, lit_16, lit_20, lit_22, lit_24, lit_28, lit_30, lit_31, lit_32, lit_39, lit_40, lit_42, lit_48, lit_50, lit_57, lit_60, lit_61, lit_62, lit_63, lit_64, lit_100, lit_120, lit_121, lit_122, lit_128, lit_130, lit_255, lit_256, lit_360, lit_1024, lit_2147483647, m1_pred, Nat.add_sub_cancel, lit_124, lit_38, lit_37, lit_33, lit_126, lit_59, lit_112, lit_108, lit_110, lit_104, lit_47, lit_43, lit_45, lit_41, lit_123, lit_49, lit_58, lit_68, s1, dg1, f_Ta_readOperand_L42, ta_write (show cl < 256 by omega)]
    have b2 : f_Mo_operand (fM + 1) (nI k) (nI i) (-nI 1) (nI ow) (nI ld) tape act wi = some (nI (i + 1), -nI 1, nI ow, nI (ld + 1), upd act (130 + ld) (nI 2), upd wi (130 + ld) (lw_alike (-nI m)).2) := by
      rw [f_Mo_operand, f_Mo_operand_body, s2, Option.bind_some, n5, Option.bind_some, if_neg (of_eq_false n6), show (2 : Int32) = nI 2 from rfl]
      simp only [Option.bind_some, mo_add (show ld < 130 by omega)]
      rw [show (1 : Int32) = nI 1 from rfl, nI_add]
      rfl
    have hs : lw_sign (-nI m) := by
      rcases n3 with z | z | z | z
      · exact Or.inr (Or.inr (Or.inl z))
      · exact Or.inr (Or.inr (Or.inr (Or.inl z)))
      · exact Or.inr (Or.inr (Or.inr (Or.inr (Or.inl z))))
      · exact Or.inr (Or.inr (Or.inr (Or.inr (Or.inr (Or.inl z)))))
    refine Or.inl ⟨[-nI m], i + 1, okE_one hs n1 n2, by omega, by omega, by simp, _, _, _, b1, b2, fun j hj => pk_un (by omega), ha_snoc (e := []) (fun j x hx => by simp at hx), fun j hj => ⟨pk_un (by omega), pk_un (by omega)⟩, hm_snoc (e := []) (fun j x hx => by simp at hx) (Prod.ext n4 rfl)⟩
  by_cases hop : m = 40 ∨ m = 33 ∨ m = 45
  rotate_left
  · exact Or.inr (op_none hk hi hld how s1 s2 dg1 dg2 (fun x hx => by rw [n_eq (by omega) (by omega)]; exact eq_false (by omega)) (fun x hx => by rw [n_eq (by omega) (by omega)]; exact eq_false (by omega)) code act wi)
  have hn : f_Mo_nameOf (nI m) = some (-nI 1) := name_none (by rw [n_eq (by omega) (by omega)]; exact eq_false (by omega)) (by rw [n_eq (by omega) (by omega)]; exact eq_false (by omega)) (by rw [n_eq (by omega) (by omega)]; exact eq_false (by omega)) (by rw [n_eq (by omega) (by omega)]; exact eq_false (by omega))
  by_cases ho : ow = 6
  · subst ho
    have p1 : f_Mo_opens (nI i) (-nI 1) (nI 6) = some (false, nI i, nI i, nI 6) := rfl
    refine Or.inr ⟨i, i, ld, false, nI cl, nI 6, code, act, wi, hi, hi, ⟨Nat.le_refl _, Nat.le_refl _⟩, by omega, ?_, fun z => (by cases z), ?_, fun j hj => ⟨rfl, rfl⟩⟩
    · rw [f_Ta_readOperand, f_Ta_readOperand_body]
      simp (disch := omega) only [n_lt, n_le, n_eq, n_cl, n_sub, nI_add, pk_mul, n_subL, n_Lsub, n_neN, n_Nne, n_leN, n_ltN, n_Nlt, n_Nle, le_T, le_F, lt_T, lt_F, eq_T, eq_F, true_or, or_true, false_or, or_false, true_and, and_true, false_and, and_false, and_self, or_self, not_true_eq_false, not_false_eq_true, decide_eq_true_eq, decide_true, decide_false, Bool.false_eq_true, Bool.true_eq_false, eq_self, ↓reduceIte, Option.bind_some, mo_in, lit_0, lit_1, lit_2, lit_3, lit_4, lit_5, lit_6, lit_7, lit_8, lit_9, lit_10, lit_11, lit_12, lit_13, lit_14, lit_15, lit_16, lit_20, lit_22, lit_24, lit_28, lit_30, lit_31, lit_32, lit_39, lit_40, lit_42, lit_48, lit_50, lit_57, lit_60, lit_61, lit_62, lit_63, lit_64, lit_100, lit_120, lit_121, lit_122, lit_128, lit_130, lit_255, lit_256, lit_360, lit_1024, lit_2147483647, m1_pred, Nat.add_sub_cancel, lit_124, lit_38, lit_37, lit_33, lit_126, lit_59, lit_112, lit_108, lit_110, lit_104, lit_47, lit_43, lit_45, lit_41, lit_123, lit_49, lit_58, lit_68, s1, dg1]
    · rw [f_Mo_operand, f_Mo_operand_body]
      rcases hop with rfl | rfl | rfl
      · simp (disch := omega) only [n_lt, n_le, n_eq, n_cl, n_sub, nI_add, pk_mul, n_subL, n_Lsub, n_neN, n_Nne, n_leN, n_ltN, n_Nlt, n_Nle, le_T, le_F, lt_T, lt_F, eq_T, eq_F, true_or, or_true, false_or, or_false, true_and, and_true, false_and, and_false, and_self, or_self, not_true_eq_false, not_false_eq_true, decide_eq_true_eq, decide_true, decide_false, Bool.false_eq_true, Bool.true_eq_false, eq_self, ↓reduceIte, Option.bind_some, mo_in, lit_0, lit_1, lit_2, lit_3, lit_4, lit_5, lit_6, lit_7, lit_8, lit_9, lit_10, lit_11, lit_12, lit_13, lit_14, lit_15, lit_16, lit_20, lit_22, lit_24, lit_28, lit_30, lit_31, lit_32, lit_39, lit_40, lit_42, lit_48, lit_50, lit_57, lit_60, lit_61, lit_62, lit_63, lit_64, lit_100, lit_120, lit_121, lit_122, lit_128, lit_130, lit_255, lit_256, lit_360, lit_1024, lit_2147483647, m1_pred, Nat.add_sub_cancel, lit_124, lit_38, lit_37, lit_33, lit_126, lit_59, lit_112, lit_108, lit_110, lit_104, lit_47, lit_43, lit_45, lit_41, lit_123, lit_49, lit_58, lit_68, s2, hn, p1]
      · simp (disch := omega) only [n_lt, n_le, n_eq, n_cl, n_sub, nI_add, pk_mul, n_subL, n_Lsub, n_neN, n_Nne, n_leN, n_ltN, n_Nlt, n_Nle, le_T, le_F, lt_T, lt_F, eq_T, eq_F, true_or, or_true, false_or, or_false, true_and, and_true, false_and, and_false, and_self, or_self, not_true_eq_false, not_false_eq_true, decide_eq_true_eq, decide_true, decide_false, Bool.false_eq_true, Bool.true_eq_false, eq_self, ↓reduceIte, Option.bind_some, mo_in, lit_0, lit_1, lit_2, lit_3, lit_4, lit_5, lit_6, lit_7, lit_8, lit_9, lit_10, lit_11, lit_12, lit_13, lit_14, lit_15, lit_16, lit_20, lit_22, lit_24, lit_28, lit_30, lit_31, lit_32, lit_39, lit_40, lit_42, lit_48, lit_50, lit_57, lit_60, lit_61, lit_62, lit_63, lit_64, lit_100, lit_120, lit_121, lit_122, lit_128, lit_130, lit_255, lit_256, lit_360, lit_1024, lit_2147483647, m1_pred, Nat.add_sub_cancel, lit_124, lit_38, lit_37, lit_33, lit_126, lit_59, lit_112, lit_108, lit_110, lit_104, lit_47, lit_43, lit_45, lit_41, lit_123, lit_49, lit_58, lit_68, s2, hn, p1, f_Mo_operand_L46]
      · simp (disch := omega) only [n_lt, n_le, n_eq, n_cl, n_sub, nI_add, pk_mul, n_subL, n_Lsub, n_neN, n_Nne, n_leN, n_ltN, n_Nlt, n_Nle, le_T, le_F, lt_T, lt_F, eq_T, eq_F, true_or, or_true, false_or, or_false, true_and, and_true, false_and, and_false, and_self, or_self, not_true_eq_false, not_false_eq_true, decide_eq_true_eq, decide_true, decide_false, Bool.false_eq_true, Bool.true_eq_false, eq_self, ↓reduceIte, Option.bind_some, mo_in, lit_0, lit_1, lit_2, lit_3, lit_4, lit_5, lit_6, lit_7, lit_8, lit_9, lit_10, lit_11, lit_12, lit_13, lit_14, lit_15, lit_16, lit_20, lit_22, lit_24, lit_28, lit_30, lit_31, lit_32, lit_39, lit_40, lit_42, lit_48, lit_50, lit_57, lit_60, lit_61, lit_62, lit_63, lit_64, lit_100, lit_120, lit_121, lit_122, lit_128, lit_130, lit_255, lit_256, lit_360, lit_1024, lit_2147483647, m1_pred, Nat.add_sub_cancel, lit_124, lit_38, lit_37, lit_33, lit_126, lit_59, lit_112, lit_108, lit_110, lit_104, lit_47, lit_43, lit_45, lit_41, lit_123, lit_49, lit_58, lit_68, s2, hn, p1, f_Mo_operand_L46]
  have p1 : f_Mo_opens (nI i) (-nI 1) (nI ow) = some (true, nI (i + 1), -nI 1, nI (ow + 1)) := by
    unfold f_Mo_opens
    simp (disch := omega) only [n_lt, n_le, n_eq, n_cl, n_sub, nI_add, pk_mul, n_subL, n_Lsub, n_neN, n_Nne, n_leN, n_ltN, n_Nlt, n_Nle, le_T, le_F, lt_T, lt_F, eq_T, eq_F, true_or, or_true, false_or, or_false, true_and, and_true, false_and, and_false, and_self, or_self, not_true_eq_false, not_false_eq_true, decide_eq_true_eq, decide_true, decide_false, Bool.false_eq_true, Bool.true_eq_false, eq_self, ↓reduceIte, Option.bind_some, mo_in, lit_0, lit_1, lit_2, lit_3, lit_4, lit_5, lit_6, lit_7, lit_8, lit_9, lit_10, lit_11, lit_12, lit_13, lit_14, lit_15, lit_16, lit_20, lit_22, lit_24, lit_28, lit_30, lit_31, lit_32, lit_39, lit_40, lit_42, lit_48, lit_50, lit_57, lit_60, lit_61, lit_62, lit_63, lit_64, lit_100, lit_120, lit_121, lit_122, lit_128, lit_130, lit_255, lit_256, lit_360, lit_1024, lit_2147483647, m1_pred, Nat.add_sub_cancel, lit_124, lit_38, lit_37, lit_33, lit_126, lit_59, lit_112, lit_108, lit_110, lit_104, lit_47, lit_43, lit_45, lit_41, lit_123, lit_49, lit_58, lit_68]
  have h6 : ¬ ((6 : Int32) ≤ nI ow) := by
    rw [show (6 : Int32) = nI 6 from rfl, n_le (by omega) (by omega)]; omega
  have ea : nI ow + 1 = nI (ow + 1) := by rw [show (1 : Int32) = nI 1 from rfl, nI_add]
  have eb : nI i + 1 = nI (i + 1) := by rw [show (1 : Int32) = nI 1 from rfl, nI_add]
  rcases hop with rfl | hop
  · have q1 : ∀ x, recL (nI 0) (nI (ow + 1)) (nI k) (nI cl) (nI (i + 1)) letters code = x → f_Ta_readOperand recL (fo + 1) (nI ow) (nI k) (nI cl) (nI i) letters code = x.bind fun (r9, u10, u11, u12) => if r9 = true then ((f_Ta_letter (nI k) u11 letters).bind fun r14 => if r14 = nI 41 then some (true, u10, u11 + nI 1, u12) else some (false, u10, u11, u12)) else some (false, u10, u11, u12) := by
      intro x hx
      subst hx
      rw [f_Ta_readOperand, f_Ta_readOperand_body, s1, Option.bind_some, dg1, Option.bind_some, if_neg (by decide), if_neg (by decide), if_neg (by decide), if_neg (by decide), if_neg (by decide), if_neg h6, if_pos (by decide), f_Ta_readOperand_L86, if_pos (by decide), ea, eb]
      rfl
    have q2 : ∀ x, f_Mo_either (f_Mo_operand fM) (nI k) (nI (i + 1)) (-nI 1) (nI (ow + 1)) (nI ld) tape act wi = x → f_Mo_operand (fM + 1) (nI k) (nI i) (-nI 1) (nI ow) (nI ld) tape act wi = x.bind fun (u32, u33, u34, u35, u36, u37) => if u33 < nI 0 then ((f_Mo_look (nI k) u32 tape).bind fun r39 => if r39 = nI 41 then some (u32 + nI 1, u33, u34 - nI 1, u35, u36, u37) else (f_Mo_faulty u32 u33).bind fun u41 => some (u32, u41, u34, u35, u36, u37)) else some (u32, u33, u34, u35, u36, u37) := by
      intro x hx
      subst hx
      rw [f_Mo_operand, f_Mo_operand_body, s2, Option.bind_some, hn, Option.bind_some, if_pos (by decide), if_neg (by decide), if_neg (by decide), if_pos (by decide), p1, Option.bind_some]
      rfl
    rcases sub0 (by omega) (i + 1) cl ld code act wi (by omega) (by omega) (by omega) with ⟨e2, i2, ok1, ok2, ok3, ok4, code', act', wi', g1, g2, g3, g4, g5, g6⟩ | ⟨q, h, ld', r, cl', op', code', act', wi', b1, b2, b3, b4, b5, b6, b7, b8⟩
    · obtain ⟨ld2, lm2, s12, s22, s32⟩ := see hk hc ok3
      have hno : (ld2 = nI 41) = False → (lm2 = nI 41) = False → (∃ e i', okS k i ow cl ld code act wi e i' (f_Ta_readOperand recL (fo + 1) (nI ow) (nI k) (nI cl) (nI i) letters code) (f_Mo_operand (fM + 1) (nI k) (nI i) (-nI 1) (nI ow) (nI ld) tape act wi)) ∨ okF k c i ld act wi (f_Ta_readOperand recL (fo + 1) (nI ow) (nI k) (nI cl) (nI i) letters code) (f_Mo_operand (fM + 1) (nI k) (nI i) (-nI 1) (nI ow) (nI ld) tape act wi) := by
        intro z1 z2
        refine Or.inr ⟨i2, i2, ld + e2.length, false, nI (cl + e2.length), nI (ow + 1), code', act', wi', ok3, ok3, ⟨by omega, by omega⟩, by omega, ?_, fun z => (by cases z), ?_, g5⟩
        · rw [q1 _ g1]
          simp (disch := omega) only [n_lt, n_le, n_eq, n_cl, n_sub, nI_add, pk_mul, n_subL, n_Lsub, n_neN, n_Nne, n_leN, n_ltN, n_Nlt, n_Nle, le_T, le_F, lt_T, lt_F, eq_T, eq_F, true_or, or_true, false_or, or_false, true_and, and_true, false_and, and_false, and_self, or_self, not_true_eq_false, not_false_eq_true, decide_eq_true_eq, decide_true, decide_false, Bool.false_eq_true, Bool.true_eq_false, eq_self, ↓reduceIte, Option.bind_some, mo_in, lit_0, lit_1, lit_2, lit_3, lit_4, lit_5, lit_6, lit_7, lit_8, lit_9, lit_10, lit_11, lit_12, lit_13, lit_14, lit_15, lit_16, lit_20, lit_22, lit_24, lit_28, lit_30, lit_31, lit_32, lit_39, lit_40, lit_42, lit_48, lit_50, lit_57, lit_60, lit_61, lit_62, lit_63, lit_64, lit_100, lit_120, lit_121, lit_122, lit_128, lit_130, lit_255, lit_256, lit_360, lit_1024, lit_2147483647, m1_pred, Nat.add_sub_cancel, lit_124, lit_38, lit_37, lit_33, lit_126, lit_59, lit_112, lit_108, lit_110, lit_104, lit_47, lit_43, lit_45, lit_41, lit_123, lit_49, lit_58, lit_68, s12, z1]
        · rw [q2 _ g2]
          simp (disch := omega) only [n_lt, n_le, n_eq, n_cl, n_sub, nI_add, pk_mul, n_subL, n_Lsub, n_neN, n_Nne, n_leN, n_ltN, n_Nlt, n_Nle, le_T, le_F, lt_T, lt_F, eq_T, eq_F, true_or, or_true, false_or, or_false, true_and, and_true, false_and, and_false, and_self, or_self, not_true_eq_false, not_false_eq_true, decide_eq_true_eq, decide_true, decide_false, Bool.false_eq_true, Bool.true_eq_false, eq_self, ↓reduceIte, Option.bind_some, mo_in, lit_0, lit_1, lit_2, lit_3, lit_4, lit_5, lit_6, lit_7, lit_8, lit_9, lit_10, lit_11, lit_12, lit_13, lit_14, lit_15, lit_16, lit_20, lit_22, lit_24, lit_28, lit_30, lit_31, lit_32, lit_39, lit_40, lit_42, lit_48, lit_50, lit_57, lit_60, lit_61, lit_62, lit_63, lit_64, lit_100, lit_120, lit_121, lit_122, lit_128, lit_130, lit_255, lit_256, lit_360, lit_1024, lit_2147483647, m1_pred, Nat.add_sub_cancel, lit_124, lit_38, lit_37, lit_33, lit_126, lit_59, lit_112, lit_108, lit_110, lit_104, lit_47, lit_43, lit_45, lit_41, lit_123, lit_49, lit_58, lit_68, s22, z2, f_Mo_faulty]
      rcases s32 with ⟨m2, hm2, hlt2, hcm2, rfl, rfl⟩ | ⟨oo1, oo2, _⟩
      · by_cases h41 : m2 = 41
        · subst h41
          refine Or.inl ⟨e2, i2 + 1, ok1, by omega, by omega, by omega, code', act', wi', ?_, ?_, g3, g4, g5, g6⟩
          · rw [q1 _ g1]
            simp (disch := omega) only [n_lt, n_le, n_eq, n_cl, n_sub, nI_add, pk_mul, n_subL, n_Lsub, n_neN, n_Nne, n_leN, n_ltN, n_Nlt, n_Nle, le_T, le_F, lt_T, lt_F, eq_T, eq_F, true_or, or_true, false_or, or_false, true_and, and_true, false_and, and_false, and_self, or_self, not_true_eq_false, not_false_eq_true, decide_eq_true_eq, decide_true, decide_false, Bool.false_eq_true, Bool.true_eq_false, eq_self, ↓reduceIte, Option.bind_some, mo_in, lit_0, lit_1, lit_2, lit_3, lit_4, lit_5, lit_6, lit_7, lit_8, lit_9, lit_10, lit_11, lit_12, lit_13, lit_14, lit_15, lit_16, lit_20, lit_22, lit_24, lit_28, lit_30, lit_31, lit_32, lit_39, lit_40, lit_42, lit_48, lit_50, lit_57, lit_60, lit_61, lit_62, lit_63, lit_64, lit_100, lit_120, lit_121, lit_122, lit_128, lit_130, lit_255, lit_256, lit_360, lit_1024, lit_2147483647, m1_pred, Nat.add_sub_cancel, lit_124, lit_38, lit_37, lit_33, lit_126, lit_59, lit_112, lit_108, lit_110, lit_104, lit_47, lit_43, lit_45, lit_41, lit_123, lit_49, lit_58, lit_68, s12]
          · rw [q2 _ g2]
            simp (disch := omega) only [n_lt, n_le, n_eq, n_cl, n_sub, nI_add, pk_mul, n_subL, n_Lsub, n_neN, n_Nne, n_leN, n_ltN, n_Nlt, n_Nle, le_T, le_F, lt_T, lt_F, eq_T, eq_F, true_or, or_true, false_or, or_false, true_and, and_true, false_and, and_false, and_self, or_self, not_true_eq_false, not_false_eq_true, decide_eq_true_eq, decide_true, decide_false, Bool.false_eq_true, Bool.true_eq_false, eq_self, ↓reduceIte, Option.bind_some, mo_in, lit_0, lit_1, lit_2, lit_3, lit_4, lit_5, lit_6, lit_7, lit_8, lit_9, lit_10, lit_11, lit_12, lit_13, lit_14, lit_15, lit_16, lit_20, lit_22, lit_24, lit_28, lit_30, lit_31, lit_32, lit_39, lit_40, lit_42, lit_48, lit_50, lit_57, lit_60, lit_61, lit_62, lit_63, lit_64, lit_100, lit_120, lit_121, lit_122, lit_128, lit_130, lit_255, lit_256, lit_360, lit_1024, lit_2147483647, m1_pred, Nat.add_sub_cancel, lit_124, lit_38, lit_37, lit_33, lit_126, lit_59, lit_112, lit_108, lit_110, lit_104, lit_47, lit_43, lit_45, lit_41, lit_123, lit_49, lit_58, lit_68, s22]
        · exact hno (by rw [n_eq (by omega) (by omega)]; exact eq_false (by omega)) (by rw [n_eq (by omega) (by omega)]; exact eq_false (by omega))
      · exact hno (oo1.1 41 (by omega)) (oo2.1 41 (by omega))
    · refine Or.inr ⟨q, h, ld', false, cl', op', code', act', wi', b1, b2, ⟨by omega, b3.2⟩, by omega, ?_, fun z => (by cases z), ?_, b8⟩
      · rw [q1 _ b5]
        cases r with
        | false => rfl
        | true =>
          obtain ⟨d1, d2, d3⟩ := b6 rfl
          obtain ⟨lc2, lm2, s12, s22, s32⟩ := see hk hc b1
          rcases s32 with ⟨m2, hm2, hlt2, hcm2, rfl, rfl⟩ | ⟨oo1, oo2, oo3⟩
          · have z1 : (nI m2 = nI 41) = False := by rw [n_eq (by omega) (by omega)]; exact eq_false (by omega)
            simp (disch := omega) only [n_lt, n_le, n_eq, n_cl, n_sub, nI_add, pk_mul, n_subL, n_Lsub, n_neN, n_Nne, n_leN, n_ltN, n_Nlt, n_Nle, le_T, le_F, lt_T, lt_F, eq_T, eq_F, true_or, or_true, false_or, or_false, true_and, and_true, false_and, and_false, and_self, or_self, not_true_eq_false, not_false_eq_true, decide_eq_true_eq, decide_true, decide_false, Bool.false_eq_true, Bool.true_eq_false, eq_self, ↓reduceIte, Option.bind_some, mo_in, lit_0, lit_1, lit_2, lit_3, lit_4, lit_5, lit_6, lit_7, lit_8, lit_9, lit_10, lit_11, lit_12, lit_13, lit_14, lit_15, lit_16, lit_20, lit_22, lit_24, lit_28, lit_30, lit_31, lit_32, lit_39, lit_40, lit_42, lit_48, lit_50, lit_57, lit_60, lit_61, lit_62, lit_63, lit_64, lit_100, lit_120, lit_121, lit_122, lit_128, lit_130, lit_255, lit_256, lit_360, lit_1024, lit_2147483647, m1_pred, Nat.add_sub_cancel, lit_124, lit_38, lit_37, lit_33, lit_126, lit_59, lit_112, lit_108, lit_110, lit_104, lit_47, lit_43, lit_45, lit_41, lit_123, lit_49, lit_58, lit_68, s12, z1]
          · omega
      · rw [q2 _ b7]
        simp (disch := omega) only [n_lt, n_le, n_eq, n_cl, n_sub, nI_add, pk_mul, n_subL, n_Lsub, n_neN, n_Nne, n_leN, n_ltN, n_Nlt, n_Nle, le_T, le_F, lt_T, lt_F, eq_T, eq_F, true_or, or_true, false_or, or_false, true_and, and_true, false_and, and_false, and_self, or_self, not_true_eq_false, not_false_eq_true, decide_eq_true_eq, decide_true, decide_false, Bool.false_eq_true, Bool.true_eq_false, eq_self, ↓reduceIte, Option.bind_some, mo_in, lit_0, lit_1, lit_2, lit_3, lit_4, lit_5, lit_6, lit_7, lit_8, lit_9, lit_10, lit_11, lit_12, lit_13, lit_14, lit_15, lit_16, lit_20, lit_22, lit_24, lit_28, lit_30, lit_31, lit_32, lit_39, lit_40, lit_42, lit_48, lit_50, lit_57, lit_60, lit_61, lit_62, lit_63, lit_64, lit_100, lit_120, lit_121, lit_122, lit_128, lit_130, lit_255, lit_256, lit_360, lit_1024, lit_2147483647, m1_pred, Nat.add_sub_cancel, lit_124, lit_38, lit_37, lit_33, lit_126, lit_59, lit_112, lit_108, lit_110, lit_104, lit_47, lit_43, lit_45, lit_41, lit_123, lit_49, lit_58, lit_68]
  rcases hop with rfl | rfl
  · have q1 : ∀ x, f_Ta_readOperand recL fo (nI (ow + 1)) (nI k) (nI cl) (nI (i + 1)) letters code = x → f_Ta_readOperand recL (fo + 1) (nI ow) (nI k) (nI cl) (nI i) letters code = x.bind fun (r4, u5, u6, u7) => if r4 = true then ((f_Ta_write (-nI 33) u5 u7).bind fun (u16, u17) => some (true, u16, u6, u17)) else some (false, u5, u6, u7) := by
      intro x hx
      subst hx
      rw [f_Ta_readOperand, f_Ta_readOperand_body, s1, Option.bind_some, dg1, Option.bind_some, if_neg (by decide), if_neg (by decide), if_neg (by decide), if_neg (by decide), if_neg (by decide), if_neg h6, if_neg (by decide), if_pos (by decide), f_Ta_readOperand_L86, if_neg (by decide), ea, eb]
      rfl
    have q2 : ∀ x, f_Mo_operand fM (nI k) (nI (i + 1)) (-nI 1) (nI (ow + 1)) (nI ld) tape act wi = x → f_Mo_operand (fM + 1) (nI k) (nI i) (-nI 1) (nI ow) (nI ld) tape act wi = x.bind fun (u6, u7, u8, u9, u10, u11) => (f_Mo_addStep (nI 3) (nI 0) u9 u10 u11).bind fun (u13, u14, u15) => some (u6, u7, u8 - nI 1, u13, u14, u15) := by
      intro x hx
      rw [f_Mo_operand, f_Mo_operand_body]
      simp (disch := omega) only [n_lt, n_le, n_eq, n_cl, n_sub, nI_add, pk_mul, n_subL, n_Lsub, n_neN, n_Nne, n_leN, n_ltN, n_Nlt, n_Nle, le_T, le_F, lt_T, lt_F, eq_T, eq_F, true_or, or_true, false_or, or_false, true_and, and_true, false_and, and_false, and_self, or_self, not_true_eq_false, not_false_eq_true, decide_eq_true_eq, decide_true, decide_false, Bool.false_eq_true, Bool.true_eq_false, eq_self, ↓reduceIte, Option.bind_some, mo_in, lit_0, lit_1, lit_2, lit_3, lit_4, lit_5, lit_6, lit_7, lit_8, lit_9, lit_10, lit_11, lit_12, lit_13, lit_14, lit_15, lit_16, lit_20, lit_22, lit_24, lit_28, lit_30, lit_31, lit_32, lit_39, lit_40, lit_42, lit_48, lit_50, lit_57, lit_60, lit_61, lit_62, lit_63, lit_64, lit_100, lit_120, lit_121, lit_122, lit_128, lit_130, lit_255, lit_256, lit_360, lit_1024, lit_2147483647, m1_pred, Nat.add_sub_cancel, lit_124, lit_38, lit_37, lit_33, lit_126, lit_59, lit_112, lit_108, lit_110, lit_104, lit_47, lit_43, lit_45, lit_41, lit_123, lit_49, lit_58, lit_68, s2, hn, p1, hx, f_Mo_operand_L46, f_Mo_operand_L80]
    have hst : (nI 3).toInt8.toInt32 = nI 3 := rfl
    rcases subO (by omega) (i + 1) cl ld code act wi (by omega) (by omega) (by omega) with ⟨e2, i2, ok1, ok2, ok3, ok4, code', act', wi', g1, g2, g3, g4, g5, g6⟩ | ⟨q, h, ld', r, cl', op', code', act', wi', b1, b2, b3, b4, b5, b6, b7, b8⟩
    · have hlen : (e2 ++ [-nI 33]).length = e2.length + 1 := by simp
      have c2 := hm_snoc (s := -nI 33) (u := nI 3) (v := nI 0) g6 rfl
      rw [show 130 + ld + e2.length = 130 + (ld + e2.length) by omega] at c2
      refine Or.inl ⟨e2 ++ [-nI 33], i2, okE_un ok1 (by decide), by omega, ok3, by rw [hlen]; omega, _, _, _, ?_, ?_, fun j hj => by rw [pk_un (by omega)]; exact g3 j hj, ha_snoc g4, fun j hj => by rw [pk_un (by omega), pk_un (by omega)]; exact g5 j hj, c2⟩
      · rw [q1 _ g1, hlen]
        simp only [Option.bind_some, if_true, ta_write (show cl + e2.length < 256 by omega)]
        rfl
      · rw [q2 _ g2, hlen]
        simp (disch := omega) only [n_lt, n_le, n_eq, n_cl, n_sub, nI_add, pk_mul, n_subL, n_Lsub, n_neN, n_Nne, n_leN, n_ltN, n_Nlt, n_Nle, le_T, le_F, lt_T, lt_F, eq_T, eq_F, true_or, or_true, false_or, or_false, true_and, and_true, false_and, and_false, and_self, or_self, not_true_eq_false, not_false_eq_true, decide_eq_true_eq, decide_true, decide_false, Bool.false_eq_true, Bool.true_eq_false, eq_self, ↓reduceIte, Option.bind_some, mo_in, lit_0, lit_1, lit_2, lit_3, lit_4, lit_5, lit_6, lit_7, lit_8, lit_9, lit_10, lit_11, lit_12, lit_13, lit_14, lit_15, lit_16, lit_20, lit_22, lit_24, lit_28, lit_30, lit_31, lit_32, lit_39, lit_40, lit_42, lit_48, lit_50, lit_57, lit_60, lit_61, lit_62, lit_63, lit_64, lit_100, lit_120, lit_121, lit_122, lit_128, lit_130, lit_255, lit_256, lit_360, lit_1024, lit_2147483647, m1_pred, Nat.add_sub_cancel, lit_124, lit_38, lit_37, lit_33, lit_126, lit_59, lit_112, lit_108, lit_110, lit_104, lit_47, lit_43, lit_45, lit_41, lit_123, lit_49, lit_58, lit_68, mo_add (show ld + e2.length < 130 by omega), hst]
        rfl
    · have hfr : ∀ j, j < 130 + ld → upd act' (130 + ld') (nI 3) j = act j ∧ upd wi' (130 + ld') (nI 0) j = wi j := fun j hj => by
        rw [pk_un (by omega), pk_un (by omega)]; exact b8 j hj
      obtain ⟨ga, gb, gw⟩ := ta_write_any (-nI 33) cl' code'
      have hM : f_Mo_operand (fM + 1) (nI k) (nI i) (-nI 1) (nI ow) (nI ld) tape act wi = some (nI h, nI q, op' - nI 1, nI (ld' + 1), upd act' (130 + ld') (nI 3), upd wi' (130 + ld') (nI 0)) := by
        rw [q2 _ b7]
        simp only [Option.bind_some, mo_add (show ld' < 130 by omega), hst]
      cases r with
      | false =>
        refine Or.inr ⟨q, h, ld' + 1, false, cl', _, code', _, _, b1, b2, ⟨by omega, by omega⟩, by omega, ?_, fun z => (by cases z), hM, hfr⟩
        rw [q1 _ b5]; rfl
      | true =>
        refine Or.inr ⟨q, h, ld' + 1, true, ga, _, gb, _, _, b1, b2, ⟨by omega, by omega⟩, by omega, ?_, b6, hM, hfr⟩
        rw [q1 _ b5]
        simp only [Option.bind_some, if_true, gw]
  · have q1 : ∀ x, f_Ta_readOperand recL fo (nI (ow + 1)) (nI k) (nI cl) (nI (i + 1)) letters code = x → f_Ta_readOperand recL (fo + 1) (nI ow) (nI k) (nI cl) (nI i) letters code = x.bind fun (r4, u5, u6, u7) => if r4 = true then ((f_Ta_write (-nI 126) u5 u7).bind fun (u16, u17) => some (true, u16, u6, u17)) else some (false, u5, u6, u7) := by
      intro x hx
      subst hx
      rw [f_Ta_readOperand, f_Ta_readOperand_body, s1, Option.bind_some, dg1, Option.bind_some, if_neg (by decide), if_neg (by decide), if_neg (by decide), if_neg (by decide), if_neg (by decide), if_neg h6, if_neg (by decide), if_neg (by decide), if_pos (by decide), f_Ta_readOperand_L86, if_neg (by decide), ea, eb]
      rfl
    have q2 : ∀ x, f_Mo_operand fM (nI k) (nI (i + 1)) (-nI 1) (nI (ow + 1)) (nI ld) tape act wi = x → f_Mo_operand (fM + 1) (nI k) (nI i) (-nI 1) (nI ow) (nI ld) tape act wi = x.bind fun (u6, u7, u8, u9, u10, u11) => (f_Mo_addStep (nI 4) (nI 0) u9 u10 u11).bind fun (u13, u14, u15) => some (u6, u7, u8 - nI 1, u13, u14, u15) := by
      intro x hx
      rw [f_Mo_operand, f_Mo_operand_body]
      simp (disch := omega) only [n_lt, n_le, n_eq, n_cl, n_sub, nI_add, pk_mul, n_subL, n_Lsub, n_neN, n_Nne, n_leN, n_ltN, n_Nlt, n_Nle, le_T, le_F, lt_T, lt_F, eq_T, eq_F, true_or, or_true, false_or, or_false, true_and, and_true, false_and, and_false, and_self, or_self, not_true_eq_false, not_false_eq_true, decide_eq_true_eq, decide_true, decide_false, Bool.false_eq_true, Bool.true_eq_false, eq_self, ↓reduceIte, Option.bind_some, mo_in, lit_0, lit_1, lit_2, lit_3, lit_4, lit_5, lit_6, lit_7, lit_8, lit_9, lit_10, lit_11, lit_12, lit_13, lit_14, lit_15, lit_16, lit_20, lit_22, lit_24, lit_28, lit_30, lit_31, lit_32, lit_39, lit_40, lit_42, lit_48, lit_50, lit_57, lit_60, lit_61, lit_62, lit_63, lit_64, lit_100, lit_120, lit_121, lit_122, lit_128, lit_130, lit_255, lit_256, lit_360, lit_1024, lit_2147483647, m1_pred, Nat.add_sub_cancel, lit_124, lit_38, lit_37, lit_33, lit_126, lit_59, lit_112, lit_108, lit_110, lit_104, lit_47, lit_43, lit_45, lit_41, lit_123, lit_49, lit_58, lit_68, s2, hn, p1, hx, f_Mo_operand_L46, f_Mo_operand_L80]
    have hst : (nI 4).toInt8.toInt32 = nI 4 := rfl
    rcases subO (by omega) (i + 1) cl ld code act wi (by omega) (by omega) (by omega) with ⟨e2, i2, ok1, ok2, ok3, ok4, code', act', wi', g1, g2, g3, g4, g5, g6⟩ | ⟨q, h, ld', r, cl', op', code', act', wi', b1, b2, b3, b4, b5, b6, b7, b8⟩
    · have hlen : (e2 ++ [-nI 126]).length = e2.length + 1 := by simp
      have c2 := hm_snoc (s := -nI 126) (u := nI 4) (v := nI 0) g6 rfl
      rw [show 130 + ld + e2.length = 130 + (ld + e2.length) by omega] at c2
      refine Or.inl ⟨e2 ++ [-nI 126], i2, okE_un ok1 (by decide), by omega, ok3, by rw [hlen]; omega, _, _, _, ?_, ?_, fun j hj => by rw [pk_un (by omega)]; exact g3 j hj, ha_snoc g4, fun j hj => by rw [pk_un (by omega), pk_un (by omega)]; exact g5 j hj, c2⟩
      · rw [q1 _ g1, hlen]
        simp only [Option.bind_some, if_true, ta_write (show cl + e2.length < 256 by omega)]
        rfl
      · rw [q2 _ g2, hlen]
        simp (disch := omega) only [n_lt, n_le, n_eq, n_cl, n_sub, nI_add, pk_mul, n_subL, n_Lsub, n_neN, n_Nne, n_leN, n_ltN, n_Nlt, n_Nle, le_T, le_F, lt_T, lt_F, eq_T, eq_F, true_or, or_true, false_or, or_false, true_and, and_true, false_and, and_false, and_self, or_self, not_true_eq_false, not_false_eq_true, decide_eq_true_eq, decide_true, decide_false, Bool.false_eq_true, Bool.true_eq_false, eq_self, ↓reduceIte, Option.bind_some, mo_in, lit_0, lit_1, lit_2, lit_3, lit_4, lit_5, lit_6, lit_7, lit_8, lit_9, lit_10, lit_11, lit_12, lit_13, lit_14, lit_15, lit_16, lit_20, lit_22, lit_24, lit_28, lit_30, lit_31, lit_32, lit_39, lit_40, lit_42, lit_48, lit_50, lit_57, lit_60, lit_61, lit_62, lit_63, lit_64, lit_100, lit_120, lit_121, lit_122, lit_128, lit_130, lit_255, lit_256, lit_360, lit_1024, lit_2147483647, m1_pred, Nat.add_sub_cancel, lit_124, lit_38, lit_37, lit_33, lit_126, lit_59, lit_112, lit_108, lit_110, lit_104, lit_47, lit_43, lit_45, lit_41, lit_123, lit_49, lit_58, lit_68, mo_add (show ld + e2.length < 130 by omega), hst]
        rfl
    · have hfr : ∀ j, j < 130 + ld → upd act' (130 + ld') (nI 4) j = act j ∧ upd wi' (130 + ld') (nI 0) j = wi j := fun j hj => by
        rw [pk_un (by omega), pk_un (by omega)]; exact b8 j hj
      obtain ⟨ga, gb, gw⟩ := ta_write_any (-nI 126) cl' code'
      have hM : f_Mo_operand (fM + 1) (nI k) (nI i) (-nI 1) (nI ow) (nI ld) tape act wi = some (nI h, nI q, op' - nI 1, nI (ld' + 1), upd act' (130 + ld') (nI 4), upd wi' (130 + ld') (nI 0)) := by
        rw [q2 _ b7]
        simp only [Option.bind_some, mo_add (show ld' < 130 by omega), hst]
      cases r with
      | false =>
        refine Or.inr ⟨q, h, ld' + 1, false, cl', _, code', _, _, b1, b2, ⟨by omega, by omega⟩, by omega, ?_, fun z => (by cases z), hM, hfr⟩
        rw [q1 _ b5]; rfl
      | true =>
        refine Or.inr ⟨q, h, ld' + 1, true, ga, _, gb, _, _, b1, b2, ⟨by omega, by omega⟩, by omega, ?_, b6, hM, hfr⟩
        rw [q1 _ b5]
        simp only [Option.bind_some, if_true, gw]
