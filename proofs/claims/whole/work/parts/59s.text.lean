/-! PURE: a text read: letters, signs written, numbers -/
theorem byte_neg : ∀ c, c < 256 → 128 ≤ c → (nI c).toInt8.toInt32 < 0 := by decide +kernel
/-- nothing that a text is made of -/
def oth (x : Int32) : Prop := (∀ m, m < 128 → (x = nI m) = False) ∧ (x < nI 48 ∨ nI 57 < x)
theorem oth_neg {x : Int32} (h : x < 0) : oth x := ⟨fun m hm => m_eq h (by omega), Or.inl (of_eq_true (m_lt h (by omega)))⟩
theorem oth_big {c : Nat} (h : 128 ≤ c) (h2 : c < 256) : oth (nI c) := ⟨fun m hm => by rw [n_eq (by omega) (by omega)]; exact eq_false (by omega), Or.inr (by rw [n_lt (by omega) (by omega)]; omega)⟩
theorem see {k : Nat} (hk : k ≤ 120) {letters tape : Nat → Int32} {c : Nat → Nat} (hc : ∀ j, j < k → c j < 256 ∧ letters j = nI (c j) ∧ tape j = (nI (c j)).toInt8.toInt32) {i : Nat} (hi : i ≤ k) : ∃ lc lm, f_Ta_letter (nI k) (nI i) letters = some lc ∧ f_Mo_look (nI k) (nI i) tape = some lm ∧ ((∃ m, m < 128 ∧ i < k ∧ c i = m ∧ lc = nI m ∧ lm = nI m) ∨ (oth lc ∧ oth lm ∧ ((i < k ∧ 128 ≤ c i) ∨ i = k))) := by
  by_cases h : i < k
  · obtain ⟨h1, h2, h3⟩ := hc i h
    have e1 : f_Ta_letter (nI k) (nI i) letters = some (letters i) := by
      unfold f_Ta_letter; simp (disch := omega) only [n_lt, n_le, n_eq, n_cl, n_sub, nI_add, pk_mul, n_subL, n_Lsub, n_neN, n_Nne, n_leN, n_ltN, n_Nlt, n_Nle, le_T, le_F, lt_T, lt_F, eq_T, eq_F, true_or, or_true, false_or, or_false, true_and, and_true, false_and, and_false, and_self, or_self, not_true_eq_false, not_false_eq_true, decide_eq_true_eq, decide_true, decide_false, Bool.false_eq_true, Bool.true_eq_false, eq_self, ↓reduceIte, Option.bind_some, mo_in, lit_0, lit_1, lit_2, lit_3, lit_4, lit_5, lit_6, lit_7, lit_8, lit_9, lit_10, lit_11, lit_12, lit_13, lit_14, lit_15, lit_16, lit_20, lit_22, lit_24, lit_28, lit_30, lit_31, lit_32, lit_39, lit_40, lit_42, lit_48, lit_50, lit_57, lit_60, lit_61, lit_62, lit_63, lit_64, lit_100, lit_120, lit_121, lit_122, lit_128, lit_130, lit_255, lit_256, lit_360, lit_1024, lit_2147483647, m1_pred, Nat.add_sub_cancel, lit_124, lit_38, lit_37, lit_33, lit_126, lit_59, lit_112, lit_108, lit_110, lit_104, lit_47, lit_43, lit_45, lit_41, lit_123, lit_49, lit_58, lit_68]
    have e2 : f_Mo_look (nI k) (nI i) tape = some (tape i) := by
      unfold f_Mo_look; simp (disch := omega) only [n_lt, n_le, n_eq, n_cl, n_sub, nI_add, pk_mul, n_subL, n_Lsub, n_neN, n_Nne, n_leN, n_ltN, n_Nlt, n_Nle, le_T, le_F, lt_T, lt_F, eq_T, eq_F, true_or, or_true, false_or, or_false, true_and, and_true, false_and, and_false, and_self, or_self, not_true_eq_false, not_false_eq_true, decide_eq_true_eq, decide_true, decide_false, Bool.false_eq_true, Bool.true_eq_false, eq_self, ↓reduceIte, Option.bind_some, mo_in, lit_0, lit_1, lit_2, lit_3, lit_4, lit_5, lit_6, lit_7, lit_8, lit_9, lit_10, lit_11, lit_12, lit_13, lit_14, lit_15, lit_16, lit_20, lit_22, lit_24, lit_28, lit_30, lit_31, lit_32, lit_39, lit_40, lit_42, lit_48, lit_50, lit_57, lit_60, lit_61, lit_62, lit_63, lit_64, lit_100, lit_120, lit_121, lit_122, lit_128, lit_130, lit_255, lit_256, lit_360, lit_1024, lit_2147483647, m1_pred, Nat.add_sub_cancel, lit_124, lit_38, lit_37, lit_33, lit_126, lit_59, lit_112, lit_108, lit_110, lit_104, lit_47, lit_43, lit_45, lit_41, lit_123, lit_49, lit_58, lit_68]
    refine ⟨letters i, tape i, e1, e2, ?_⟩
    by_cases h4 : c i < 128
    · exact Or.inl ⟨c i, h4, h, rfl, h2, h3.trans (fa_byte_small h4)⟩
    · refine Or.inr ⟨by rw [h2]; exact oth_big (by omega) h1, oth_neg (by rw [h3]; exact byte_neg _ h1 (by omega)), Or.inl ⟨h, by omega⟩⟩
  · have e1 : f_Ta_letter (nI k) (nI i) letters = some (-nI 1) := by
      unfold f_Ta_letter; simp (disch := omega) only [n_lt, n_le, n_eq, n_cl, n_sub, nI_add, pk_mul, n_subL, n_Lsub, n_neN, n_Nne, n_leN, n_ltN, n_Nlt, n_Nle, le_T, le_F, lt_T, lt_F, eq_T, eq_F, true_or, or_true, false_or, or_false, true_and, and_true, false_and, and_false, and_self, or_self, not_true_eq_false, not_false_eq_true, decide_eq_true_eq, decide_true, decide_false, Bool.false_eq_true, Bool.true_eq_false, eq_self, ↓reduceIte, Option.bind_some, mo_in, lit_0, lit_1, lit_2, lit_3, lit_4, lit_5, lit_6, lit_7, lit_8, lit_9, lit_10, lit_11, lit_12, lit_13, lit_14, lit_15, lit_16, lit_20, lit_22, lit_24, lit_28, lit_30, lit_31, lit_32, lit_39, lit_40, lit_42, lit_48, lit_50, lit_57, lit_60, lit_61, lit_62, lit_63, lit_64, lit_100, lit_120, lit_121, lit_122, lit_128, lit_130, lit_255, lit_256, lit_360, lit_1024, lit_2147483647, m1_pred, Nat.add_sub_cancel, lit_124, lit_38, lit_37, lit_33, lit_126, lit_59, lit_112, lit_108, lit_110, lit_104, lit_47, lit_43, lit_45, lit_41, lit_123, lit_49, lit_58, lit_68]
    have e2 : f_Mo_look (nI k) (nI i) tape = some (-nI 1) := by
      unfold f_Mo_look; simp (disch := omega) only [n_lt, n_le, n_eq, n_cl, n_sub, nI_add, pk_mul, n_subL, n_Lsub, n_neN, n_Nne, n_leN, n_ltN, n_Nlt, n_Nle, le_T, le_F, lt_T, lt_F, eq_T, eq_F, true_or, or_true, false_or, or_false, true_and, and_true, false_and, and_false, and_self, or_self, not_true_eq_false, not_false_eq_true, decide_eq_true_eq, decide_true, decide_false, Bool.false_eq_true, Bool.true_eq_false, eq_self, ↓reduceIte, Option.bind_some, mo_in, lit_0, lit_1, lit_2, lit_3, lit_4, lit_5, lit_6, lit_7, lit_8, lit_9, lit_10, lit_11, lit_12, lit_13, lit_14, lit_15, lit_16, lit_20, lit_22, lit_24, lit_28, lit_30, lit_31, lit_32, lit_39, lit_40, lit_42, lit_48, lit_50, lit_57, lit_60, lit_61, lit_62, lit_63, lit_64, lit_100, lit_120, lit_121, lit_122, lit_128, lit_130, lit_255, lit_256, lit_360, lit_1024, lit_2147483647, m1_pred, Nat.add_sub_cancel, lit_124, lit_38, lit_37, lit_33, lit_126, lit_59, lit_112, lit_108, lit_110, lit_104, lit_47, lit_43, lit_45, lit_41, lit_123, lit_49, lit_58, lit_68]
    exact ⟨-nI 1, -nI 1, e1, e2, Or.inr ⟨oth_neg (by decide), oth_neg (by decide), Or.inr (by omega)⟩⟩
theorem oth_digit {x : Int32} (h : oth x) : f_Ta_isDigit x = some false ∧ f_Mo_in x (nI 48) (nI 57) = some false := by
  constructor
  · unfold f_Ta_isDigit
    rw [lit_48, lit_57]
    rcases h.2 with a | a
    · rw [if_pos a]
    · by_cases b : x < nI 48
      · rw [if_pos b]
      · rw [if_neg b, if_pos a]
  · rw [mo_in]
    rcases h.2 with a | a
    · simp [Int32.not_le.mpr a]
    · simp [Int32.not_le.mpr a]
theorem dig {m : Nat} (hm : m < 128) : f_Ta_isDigit (nI m) = some (decide (48 ≤ m ∧ m ≤ 57)) ∧ f_Mo_in (nI m) (nI 48) (nI 57) = some (decide (48 ≤ m ∧ m ≤ 57)) := by
  constructor
  · unfold f_Ta_isDigit
    by_cases a : m < 48
    · have e : decide (48 ≤ m ∧ m ≤ 57) = false := by simp; omega
      rw [e]; simp (disch := omega) only [n_lt, n_le, n_eq, n_cl, n_sub, nI_add, pk_mul, n_subL, n_Lsub, n_neN, n_Nne, n_leN, n_ltN, n_Nlt, n_Nle, le_T, le_F, lt_T, lt_F, eq_T, eq_F, true_or, or_true, false_or, or_false, true_and, and_true, false_and, and_false, and_self, or_self, not_true_eq_false, not_false_eq_true, decide_eq_true_eq, decide_true, decide_false, Bool.false_eq_true, Bool.true_eq_false, eq_self, ↓reduceIte, Option.bind_some, mo_in, lit_0, lit_1, lit_2, lit_3, lit_4, lit_5, lit_6, lit_7, lit_8, lit_9, lit_10, lit_11, lit_12, lit_13, lit_14, lit_15, lit_16, lit_20, lit_22, lit_24, lit_28, lit_30, lit_31, lit_32, lit_39, lit_40, lit_42, lit_48, lit_50, lit_57, lit_60, lit_61, lit_62, lit_63, lit_64, lit_100, lit_120, lit_121, lit_122, lit_128, lit_130, lit_255, lit_256, lit_360, lit_1024, lit_2147483647, m1_pred, Nat.add_sub_cancel, lit_124, lit_38, lit_37, lit_33, lit_126, lit_59, lit_112, lit_108, lit_110, lit_104, lit_47, lit_43, lit_45, lit_41, lit_123, lit_49, lit_58, lit_68]
    · by_cases b : 57 < m
      · have e : decide (48 ≤ m ∧ m ≤ 57) = false := by simp; omega
        rw [e]; simp (disch := omega) only [n_lt, n_le, n_eq, n_cl, n_sub, nI_add, pk_mul, n_subL, n_Lsub, n_neN, n_Nne, n_leN, n_ltN, n_Nlt, n_Nle, le_T, le_F, lt_T, lt_F, eq_T, eq_F, true_or, or_true, false_or, or_false, true_and, and_true, false_and, and_false, and_self, or_self, not_true_eq_false, not_false_eq_true, decide_eq_true_eq, decide_true, decide_false, Bool.false_eq_true, Bool.true_eq_false, eq_self, ↓reduceIte, Option.bind_some, mo_in, lit_0, lit_1, lit_2, lit_3, lit_4, lit_5, lit_6, lit_7, lit_8, lit_9, lit_10, lit_11, lit_12, lit_13, lit_14, lit_15, lit_16, lit_20, lit_22, lit_24, lit_28, lit_30, lit_31, lit_32, lit_39, lit_40, lit_42, lit_48, lit_50, lit_57, lit_60, lit_61, lit_62, lit_63, lit_64, lit_100, lit_120, lit_121, lit_122, lit_128, lit_130, lit_255, lit_256, lit_360, lit_1024, lit_2147483647, m1_pred, Nat.add_sub_cancel, lit_124, lit_38, lit_37, lit_33, lit_126, lit_59, lit_112, lit_108, lit_110, lit_104, lit_47, lit_43, lit_45, lit_41, lit_123, lit_49, lit_58, lit_68]
      · have e : decide (48 ≤ m ∧ m ≤ 57) = true := by simp; omega
        rw [e]; simp (disch := omega) only [n_lt, n_le, n_eq, n_cl, n_sub, nI_add, pk_mul, n_subL, n_Lsub, n_neN, n_Nne, n_leN, n_ltN, n_Nlt, n_Nle, le_T, le_F, lt_T, lt_F, eq_T, eq_F, true_or, or_true, false_or, or_false, true_and, and_true, false_and, and_false, and_self, or_self, not_true_eq_false, not_false_eq_true, decide_eq_true_eq, decide_true, decide_false, Bool.false_eq_true, Bool.true_eq_false, eq_self, ↓reduceIte, Option.bind_some, mo_in, lit_0, lit_1, lit_2, lit_3, lit_4, lit_5, lit_6, lit_7, lit_8, lit_9, lit_10, lit_11, lit_12, lit_13, lit_14, lit_15, lit_16, lit_20, lit_22, lit_24, lit_28, lit_30, lit_31, lit_32, lit_39, lit_40, lit_42, lit_48, lit_50, lit_57, lit_60, lit_61, lit_62, lit_63, lit_64, lit_100, lit_120, lit_121, lit_122, lit_128, lit_130, lit_255, lit_256, lit_360, lit_1024, lit_2147483647, m1_pred, Nat.add_sub_cancel, lit_124, lit_38, lit_37, lit_33, lit_126, lit_59, lit_112, lit_108, lit_110, lit_104, lit_47, lit_43, lit_45, lit_41, lit_123, lit_49, lit_58, lit_68]
  · rw [mo_in_n (by omega) (by omega) (by omega)]
def lvl (m : Nat) : Int32 := if m = 124 then nI 0 else if m = 38 then nI 1 else if m = 60 ∨ m = 61 ∨ m = 62 then nI 2 else if m = 43 ∨ m = 45 then nI 3 else if m = 42 ∨ m = 47 ∨ m = 37 then nI 4 else -nI 1
theorem lvl_of : ∀ m, m < 128 → f_Ta_levelOf (nI m) = some (lvl m) := by decide +kernel
theorem lvl_oth {x : Int32} (h : oth x) : f_Ta_levelOf x = some (-nI 1) := by
  have h1 := fun m (hm : m < 128) => of_eq_false (h.1 m hm)
  unfold f_Ta_levelOf
  rw [if_neg (show ¬ x = (37 : Int32) from h1 37 (by omega)), if_neg (show ¬ x = (38 : Int32) from h1 38 (by omega)), if_neg (show ¬ x = (42 : Int32) from h1 42 (by omega)), if_neg (show ¬ x = (43 : Int32) from h1 43 (by omega)), if_neg (show ¬ x = (45 : Int32) from h1 45 (by omega)), if_neg (show ¬ x = (47 : Int32) from h1 47 (by omega)), if_neg (show ¬ x = (60 : Int32) from h1 60 (by omega)), if_neg (show ¬ x = (61 : Int32) from h1 61 (by omega)), if_neg (show ¬ x = (62 : Int32) from h1 62 (by omega)), if_neg (show ¬ x = (124 : Int32) from h1 124 (by omega))]
  rfl
theorem lvl_dig : ∀ m, m < 128 → 48 ≤ m → m ≤ 57 → lvl m = -nI 1 := by decide +kernel
theorem ta_write {cl : Nat} (h : cl < 256) (s : Int32) (code : Nat → Int32) : f_Ta_write s (nI cl) code = some (nI (cl + 1), upd code cl s) := by
  unfold f_Ta_write; simp (disch := omega) only [n_lt, n_le, n_eq, n_cl, n_sub, nI_add, pk_mul, n_subL, n_Lsub, n_neN, n_Nne, n_leN, n_ltN, n_Nlt, n_Nle, le_T, le_F, lt_T, lt_F, eq_T, eq_F, true_or, or_true, false_or, or_false, true_and, and_true, false_and, and_false, and_self, or_self, not_true_eq_false, not_false_eq_true, decide_eq_true_eq, decide_true, decide_false, Bool.false_eq_true, Bool.true_eq_false, eq_self, ↓reduceIte, Option.bind_some, mo_in, lit_0, lit_1, lit_2, lit_3, lit_4, lit_5, lit_6, lit_7, lit_8, lit_9, lit_10, lit_11, lit_12, lit_13, lit_14, lit_15, lit_16, lit_20, lit_22, lit_24, lit_28, lit_30, lit_31, lit_32, lit_39, lit_40, lit_42, lit_48, lit_50, lit_57, lit_60, lit_61, lit_62, lit_63, lit_64, lit_100, lit_120, lit_121, lit_122, lit_128, lit_130, lit_255, lit_256, lit_360, lit_1024, lit_2147483647, m1_pred, Nat.add_sub_cancel, lit_124, lit_38, lit_37, lit_33, lit_126, lit_59, lit_112, lit_108, lit_110, lit_104, lit_47, lit_43, lit_45, lit_41, lit_123, lit_49, lit_58, lit_68]
theorem ta_write_any (s x : Int32) (code : Nat → Int32) : ∃ a b, f_Ta_write s x code = some (a, b) := by
  unfold f_Ta_write
  rcases n_cases x with a | ⟨j, hj, rfl⟩
  · exact ⟨x, code, if_pos a⟩
  · by_cases h : j < 256
    · simp (disch := omega) only [n_lt, n_le, n_eq, n_cl, n_sub, nI_add, pk_mul, n_subL, n_Lsub, n_neN, n_Nne, n_leN, n_ltN, n_Nlt, n_Nle, le_T, le_F, lt_T, lt_F, eq_T, eq_F, true_or, or_true, false_or, or_false, true_and, and_true, false_and, and_false, and_self, or_self, not_true_eq_false, not_false_eq_true, decide_eq_true_eq, decide_true, decide_false, Bool.false_eq_true, Bool.true_eq_false, eq_self, ↓reduceIte, Option.bind_some, mo_in, lit_0, lit_1, lit_2, lit_3, lit_4, lit_5, lit_6, lit_7, lit_8, lit_9, lit_10, lit_11, lit_12, lit_13, lit_14, lit_15, lit_16, lit_20, lit_22, lit_24, lit_28, lit_30, lit_31, lit_32, lit_39, lit_40, lit_42, lit_48, lit_50, lit_57, lit_60, lit_61, lit_62, lit_63, lit_64, lit_100, lit_120, lit_121, lit_122, lit_128, lit_130, lit_255, lit_256, lit_360, lit_1024, lit_2147483647, m1_pred, Nat.add_sub_cancel, lit_124, lit_38, lit_37, lit_33, lit_126, lit_59, lit_112, lit_108, lit_110, lit_104, lit_47, lit_43, lit_45, lit_41, lit_123, lit_49, lit_58, lit_68]
      exact ⟨_, _, rfl⟩
    · simp (disch := omega) only [n_lt, n_le, n_eq, n_cl, n_sub, nI_add, pk_mul, n_subL, n_Lsub, n_neN, n_Nne, n_leN, n_ltN, n_Nlt, n_Nle, le_T, le_F, lt_T, lt_F, eq_T, eq_F, true_or, or_true, false_or, or_false, true_and, and_true, false_and, and_false, and_self, or_self, not_true_eq_false, not_false_eq_true, decide_eq_true_eq, decide_true, decide_false, Bool.false_eq_true, Bool.true_eq_false, eq_self, ↓reduceIte, Option.bind_some, mo_in, lit_0, lit_1, lit_2, lit_3, lit_4, lit_5, lit_6, lit_7, lit_8, lit_9, lit_10, lit_11, lit_12, lit_13, lit_14, lit_15, lit_16, lit_20, lit_22, lit_24, lit_28, lit_30, lit_31, lit_32, lit_39, lit_40, lit_42, lit_48, lit_50, lit_57, lit_60, lit_61, lit_62, lit_63, lit_64, lit_100, lit_120, lit_121, lit_122, lit_128, lit_130, lit_255, lit_256, lit_360, lit_1024, lit_2147483647, m1_pred, Nat.add_sub_cancel, lit_124, lit_38, lit_37, lit_33, lit_126, lit_59, lit_112, lit_108, lit_110, lit_104, lit_47, lit_43, lit_45, lit_41, lit_123, lit_49, lit_58, lit_68, show (256 : Int32) = nI 256 from rfl]
      exact ⟨_, _, rfl⟩
theorem mo_add {ld : Nat} (h : ld < 130) (a b : Int32) (act wi : Nat → Int32) : f_Mo_addStep a b (nI ld) act wi = some (nI (ld + 1), upd act (130 + ld) a.toInt8.toInt32, upd wi (130 + ld) b) := by
  unfold f_Mo_addStep
  simp (disch := omega) only [n_lt, n_le, n_eq, n_cl, n_sub, nI_add, pk_mul, n_subL, n_Lsub, n_neN, n_Nne, n_leN, n_ltN, n_Nlt, n_Nle, le_T, le_F, lt_T, lt_F, eq_T, eq_F, true_or, or_true, false_or, or_false, true_and, and_true, false_and, and_false, and_self, or_self, not_true_eq_false, not_false_eq_true, decide_eq_true_eq, decide_true, decide_false, Bool.false_eq_true, Bool.true_eq_false, eq_self, ↓reduceIte, Option.bind_some, mo_in, lit_0, lit_1, lit_2, lit_3, lit_4, lit_5, lit_6, lit_7, lit_8, lit_9, lit_10, lit_11, lit_12, lit_13, lit_14, lit_15, lit_16, lit_20, lit_22, lit_24, lit_28, lit_30, lit_31, lit_32, lit_39, lit_40, lit_42, lit_48, lit_50, lit_57, lit_60, lit_61, lit_62, lit_63, lit_64, lit_100, lit_120, lit_121, lit_122, lit_128, lit_130, lit_255, lit_256, lit_360, lit_1024, lit_2147483647, m1_pred, Nat.add_sub_cancel, lit_124, lit_38, lit_37, lit_33, lit_126, lit_59, lit_112, lit_108, lit_110, lit_104, lit_47, lit_43, lit_45, lit_41, lit_123, lit_49, lit_58, lit_68, pk_vb]
theorem dep_shift : ∀ (e : List Int32) (d r s : Nat), lw_dep e d = some r → lw_dep e (d + s) = some (r + s)
  | [], d, r, s, h => by rw [lw_dep] at h ⊢; cases h; rfl
  | o :: e, d, r, s, h => by
    rw [lw_dep] at h ⊢
    by_cases h1 : lw_bin o = true
    · rw [if_pos h1] at h ⊢
      by_cases h2 : d < 2
      · rw [if_pos h2] at h; cases h
      · rw [if_neg h2] at h
        rw [if_neg (by omega), show d + s - 1 = d - 1 + s by omega]
        exact dep_shift e _ _ s h
    · rw [if_neg h1] at h ⊢
      by_cases h2 : lw_un o = true
      · rw [if_pos h2] at h ⊢
        by_cases h3 : d < 1
        · rw [if_pos h3] at h; cases h
        · rw [if_neg h3] at h
          rw [if_neg (by omega)]
          exact dep_shift e _ _ s h
      · rw [if_neg h2] at h ⊢
        rw [show d + s + 1 = d + 1 + s by omega]
        exact dep_shift e _ _ s h
theorem dep_append : ∀ (a b : List Int32) (d r : Nat), lw_dep a d = some r → lw_dep (a ++ b) d = lw_dep b r
  | [], b, d, r, h => by rw [lw_dep] at h; cases h; rfl
  | o :: a, b, d, r, h => by
    rw [lw_dep] at h
    rw [List.cons_append, lw_dep]
    by_cases h1 : lw_bin o = true
    · rw [if_pos h1] at h ⊢
      by_cases h2 : d < 2
      · rw [if_pos h2] at h; cases h
      · rw [if_neg h2] at h ⊢; exact dep_append a b _ _ h
    · rw [if_neg h1] at h ⊢
      by_cases h2 : lw_un o = true
      · rw [if_pos h2] at h ⊢
        by_cases h3 : d < 1
        · rw [if_pos h3] at h; cases h
        · rw [if_neg h3] at h ⊢; exact dep_append a b _ _ h
      · rw [if_neg h2] at h ⊢; exact dep_append a b _ _ h
theorem okE_bin {a b : List Int32} {s : Int32} (ha : lw_okE a) (hb : lw_okE b) (hs : lw_bin s = true) : lw_okE (a ++ b ++ [s]) := by
  refine ⟨?_, fun o ho => ?_⟩
  · rw [List.append_assoc, dep_append a _ 0 1 ha.1, dep_append b [s] 1 2 (dep_shift b 0 1 1 hb.1), lw_dep, if_pos hs]
    rfl
  · rw [List.mem_append, List.mem_append] at ho
    rcases ho with (h | h) | h
    · exact ha.2 o h
    · exact hb.2 o h
    · have e : o = s := by simpa using h
      rw [e]; exact Or.inl hs
theorem okE_un {a : List Int32} {s : Int32} (ha : lw_okE a) (hs : lw_un s = true) : lw_okE (a ++ [s]) := by
  refine ⟨?_, fun o ho => ?_⟩
  · rw [dep_append a [s] 0 1 ha.1, lw_dep, if_neg (by rw [(sg_un hs).1]; decide), if_pos hs]
    rfl
  · rw [List.mem_append] at ho
    rcases ho with h | h
    · exact ha.2 o h
    · have e : o = s := by simpa using h
      rw [e]; exact Or.inr (Or.inl hs)
theorem okE_one {s : Int32} (hs : lw_sign s) (h1 : lw_bin s = false) (h2 : lw_un s = false) : lw_okE [s] := by
  refine ⟨?_, fun o ho => ?_⟩
  · rw [lw_dep, if_neg (by rw [h1]; decide), if_neg (by rw [h2]; decide)]; rfl
  · have e : o = s := by simpa using ho
    rw [e]; exact hs
/-- signs that lie behind one another from a place on -/
def ha (f : Nat → Int32) (p : Nat) (e : List Int32) : Prop := ∀ j x, e[j]? = some x → f (p + j) = x
def hm (act wi : Nat → Int32) (p : Nat) (e : List Int32) : Prop := ∀ j x, e[j]? = some x → act (p + j) = (lw_alike x).1 ∧ wi (p + j) = (lw_alike x).2
theorem get_snoc {e : List Int32} {s x : Int32} {j : Nat} (h : (e ++ [s])[j]? = some x) : (j < e.length ∧ e[j]? = some x) ∨ (j = e.length ∧ s = x) := by
  by_cases c : j < e.length
  · rw [List.getElem?_append_left c] at h; exact Or.inl ⟨c, h⟩
  · rw [List.getElem?_append_right (by omega)] at h
    have hl := (List.getElem?_eq_some_iff.mp h).1
    have e2 : j = e.length := by simp at hl; omega
    subst e2
    rw [Nat.sub_self] at h
    exact Or.inr ⟨rfl, by simpa using h⟩
theorem get_app {a b : List Int32} {x : Int32} {j : Nat} (h : (a ++ b)[j]? = some x) : (j < a.length ∧ a[j]? = some x) ∨ (a.length ≤ j ∧ b[j - a.length]? = some x) := by
  by_cases c : j < a.length
  · rw [List.getElem?_append_left c] at h; exact Or.inl ⟨c, h⟩
  · rw [List.getElem?_append_right (by omega)] at h; exact Or.inr ⟨by omega, h⟩
theorem ha_snoc {f : Nat → Int32} {p : Nat} {e : List Int32} {s : Int32} (h : ha f p e) : ha (upd f (p + e.length) s) p (e ++ [s]) := by
  intro j x hj
  rcases get_snoc hj with ⟨a, b⟩ | ⟨a, b⟩
  · rw [pk_un (by omega)]; exact h j x b
  · subst a; rw [pk_us]; exact b
theorem hm_snoc {f g : Nat → Int32} {p : Nat} {e : List Int32} {s u v : Int32} (h : hm f g p e) (hs : lw_alike s = (u, v)) : hm (upd f (p + e.length) u) (upd g (p + e.length) v) p (e ++ [s]) := by
  intro j x hj
  rcases get_snoc hj with ⟨a, b⟩ | ⟨a, b⟩
  · rw [pk_un (by omega), pk_un (by omega)]; exact h j x b
  · subst a; rw [pk_us, pk_us, ← b, hs]; exact ⟨rfl, rfl⟩
theorem ha_app {f g : Nat → Int32} {p : Nat} {a b : List Int32} (h1 : ha f p a) (h2 : ha g (p + a.length) b) (h3 : ∀ j, j < p + a.length → g j = f j) : ha g p (a ++ b) := by
  intro j x hj
  rcases get_app hj with ⟨c, d⟩ | ⟨c, d⟩
  · rw [h3 _ (by omega)]; exact h1 j x d
  · have := h2 _ x d
    rw [show p + a.length + (j - a.length) = p + j by omega] at this
    exact this
theorem hm_app {f g f' g' : Nat → Int32} {p : Nat} {a b : List Int32} (h1 : hm f g p a) (h2 : hm f' g' (p + a.length) b) (h3 : ∀ j, j < p + a.length → f' j = f j ∧ g' j = g j) : hm f' g' p (a ++ b) := by
  intro j x hj
  rcases get_app hj with ⟨c, d⟩ | ⟨c, d⟩
  · rw [(h3 _ (by omega)).1, (h3 _ (by omega)).2]; exact h1 j x d
  · have := h2 _ x d
    rw [show p + a.length + (j - a.length) = p + j by omega] at this
    exact this
/-- both read the same: an expression -/
def okS (k i o cl ld : Nat) (code act wi : Nat → Int32) (e : List Int32) (i' : Nat) (rc : Option (Bool × Int32 × Int32 × (Nat → Int32))) (rm : Option (Int32 × Int32 × Int32 × Int32 × (Nat → Int32) × (Nat → Int32))) : Prop :=
  lw_okE e ∧ i < i' ∧ i' ≤ k ∧ i + e.length ≤ i' ∧ ∃ code' act' wi' : Nat → Int32, rc = some (true, nI (cl + e.length), nI i', code') ∧ rm = some (nI i', -nI 1, nI o, nI (ld + e.length), act', wi') ∧ (∀ j, j < cl → code' j = code j) ∧ ha code' cl e ∧ (∀ j, j < 130 + ld → act' j = act j ∧ wi' j = wi j) ∧ hm act' wi' (130 + ld) e
/-- both find the same fault (the class at once, or as soon as it looks at what follows a number of four digits) -/
def okF (k : Nat) (c : Nat → Nat) (i ld : Nat) (act wi : Nat → Int32) (rc : Option (Bool × Int32 × Int32 × (Nat → Int32))) (rm : Option (Int32 × Int32 × Int32 × Int32 × (Nat → Int32) × (Nat → Int32))) : Prop :=
  ∃ (q h ld' : Nat) (r : Bool) (cl' op' : Int32) (code' act' wi' : Nat → Int32), q ≤ k ∧ h ≤ k ∧ (i ≤ h ∧ ld ≤ ld') ∧ ld' ≤ ld + (h - i) + 1 ∧ rc = some (r, cl', nI q, code') ∧ (r = true → q < k ∧ 48 ≤ c q ∧ c q ≤ 57) ∧ rm = some (nI h, nI q, op', nI ld', act', wi') ∧ ∀ j, j < 130 + ld → act' j = act j ∧ wi' j = wi j
def PO (k : Nat) (c : Nat → Nat) (o : Nat) (fc : Int32 → Int32 → (Nat → Int32) → Option (Bool × Int32 × Int32 × (Nat → Int32))) (fm : Int32 → Int32 → Int32 → Int32 → (Nat → Int32) → (Nat → Int32) → Option (Int32 × Int32 × Int32 × Int32 × (Nat → Int32) × (Nat → Int32))) : Prop :=
  ∀ (i cl ld : Nat) (code act wi : Nat → Int32), i ≤ k → cl ≤ i → ld ≤ i → (∃ e i', okS k i o cl ld code act wi e i' (fc (nI cl) (nI i) code) (fm (nI i) (-nI 1) (nI o) (nI ld) act wi)) ∨ okF k c i ld act wi (fc (nI cl) (nI i) code) (fm (nI i) (-nI 1) (nI o) (nI ld) act wi)
