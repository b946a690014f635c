/-! PURE: a text read: the levels -/
theorem stop_dig {k : Nat} {letters tape : Nat → Int32} {c : Nat → Nat} (hk : k ≤ 120) (hc : ∀ j, j < k → c j < 256 ∧ letters j = nI (c j) ∧ tape j = (nI (c j)).toInt8.toInt32) {rec : Int32 → Int32 → Int32 → Int32 → Int32 → (Nat → Int32) → (Nat → Int32) → Option (Bool × Int32 × Int32 × (Nat → Int32))} {fu l q : Nat} (hl : l < 5) (hq : q < k) (h1 : 48 ≤ c q) (h2 : c q ≤ 57) (v2 v3 v4 x : Int32) (code : Nat → Int32) : f_Ta_readLevel_L39 rec (fu + 1) (nI l) v2 v3 v4 (nI k) x (nI q) letters code = some (true, x, nI q, code) := by
  obtain ⟨lc, lm, s1, s2, s3⟩ := see hk hc (show q ≤ k by omega)
  rw [f_Ta_readLevel_L39]
  by_cases a : v3 ≤ v4
  · rw [if_pos a]
  · rw [if_neg a, s1]
    rcases s3 with ⟨m, hm, hqk, hcm, rfl, rfl⟩ | ⟨o1, o2, o3⟩
    · have e := lvl_of m hm
      rw [lvl_dig m hm (by omega) (by omega)] at e
      simp (disch := omega) only [n_lt, n_le, n_eq, n_cl, n_sub, nI_add, pk_mul, n_subL, n_Lsub, n_neN, n_Nne, n_leN, n_ltN, n_Nlt, n_Nle, le_T, le_F, lt_T, lt_F, eq_T, eq_F, true_or, or_true, false_or, or_false, true_and, and_true, false_and, and_false, and_self, or_self, not_true_eq_false, not_false_eq_true, decide_eq_true_eq, decide_true, decide_false, Bool.false_eq_true, Bool.true_eq_false, eq_self, ↓reduceIte, Option.bind_some, mo_in, lit_0, lit_1, lit_2, lit_3, lit_4, lit_5, lit_6, lit_7, lit_8, lit_9, lit_10, lit_11, lit_12, lit_13, lit_14, lit_15, lit_16, lit_20, lit_22, lit_24, lit_28, lit_30, lit_31, lit_32, lit_39, lit_40, lit_42, lit_48, lit_50, lit_57, lit_60, lit_61, lit_62, lit_63, lit_64, lit_100, lit_120, lit_121, lit_122, lit_128, lit_130, lit_255, lit_256, lit_360, lit_1024, lit_2147483647, m1_pred, Nat.add_sub_cancel, lit_124, lit_38, lit_37, lit_33, lit_126, lit_59, lit_112, lit_108, lit_110, lit_104, lit_47, lit_43, lit_45, lit_41, lit_123, lit_49, lit_58, lit_68, e]
    · omega
theorem lvl_4 : ∀ m, m < 128 → (lvl m = nI 4 ↔ (m = 42 ∨ m = 47 ∨ m = 37)) := by decide +kernel
theorem op_4 : ∀ m, m < 128 → (m = 42 ∨ m = 47 ∨ m = 37) → lw_bin (-nI m) = true ∧ lw_alike (-nI m) = (nI m, nI 0) := by decide +kernel
theorem lvl_3 : ∀ m, m < 128 → (lvl m = nI 3 ↔ (m = 43 ∨ m = 45)) := by decide +kernel
theorem op_3 : ∀ m, m < 128 → (m = 43 ∨ m = 45) → lw_bin (-nI m) = true ∧ lw_alike (-nI m) = (nI m, nI 0) := by decide +kernel
theorem lvl_2 : ∀ m, m < 128 → (lvl m = nI 2 ↔ (m = 60 ∨ m = 61 ∨ m = 62)) := by decide +kernel
theorem op_2 : ∀ m, m < 128 → (m = 60 ∨ m = 61 ∨ m = 62) → lw_bin (-nI m) = true ∧ lw_alike (-nI m) = (nI m, nI 0) := by decide +kernel
theorem lvl_1 : ∀ m, m < 128 → (lvl m = nI 1 ↔ (m = 38)) := by decide +kernel
theorem op_1 : ∀ m, m < 128 → (m = 38) → lw_bin (-nI m) = true ∧ lw_alike (-nI m) = (nI m, nI 0) := by decide +kernel
theorem lvl_0 : ∀ m, m < 128 → (lvl m = nI 0 ↔ (m = 124)) := by decide +kernel
theorem op_0 : ∀ m, m < 128 → (m = 124) → lw_bin (-nI m) = true ∧ lw_alike (-nI m) = (nI m, nI 0) := by decide +kernel
theorem lo_product {k : Nat} {letters tape : Nat → Int32} {c : Nat → Nat} (hk : k ≤ 120) (hc : ∀ j, j < k → c j < 256 ∧ letters j = nI (c j) ∧ tape j = (nI (c j)).toInt8.toInt32) {F o : Nat} {recM : Int32 → Int32 → Int32 → Int32 → Int32 → (Nat → Int32) → (Nat → Int32) → (Nat → Int32) → Option (Int32 × Int32 × Int32 × Int32 × (Nat → Int32) × (Nat → Int32))} (sub : PO k c o (fun cl at_ code => f_Ta_readLevel F (nI 5) (nI o) (nI k) cl at_ letters code) (fun h f op la act wi => recM (nI k) h f op la tape act wi)) : ∀ (w i i0 cl ld j fu fuM : Nat) (e : List Int32) (code act wi code0 act0 wi0 : Nat → Int32), k - i ≤ w → i0 < i → i ≤ k → i0 + e.length ≤ i → cl ≤ i0 → ld ≤ i0 → 2 * j ≤ i → w + 1 < fu → w + 1 < fuM → lw_okE e → (∀ j, j < cl → code j = code0 j) → ha code cl e → (∀ j, j < 130 + ld → act j = act0 j ∧ wi j = wi0 j) → hm act wi (130 + ld) e → (∃ e' i', okS k i0 o cl ld code0 act0 wi0 e' i' (f_Ta_readLevel_L39 (f_Ta_readLevel F) fu (nI 4) (nI o) (nI 120) (nI j) (nI k) (nI (cl + e.length)) (nI i) letters code) (f_Mo_product_L4 recM fuM (nI k) (nI i) (-nI 1) (nI o) (nI (ld + e.length)) tape act wi)) ∨ okF k c i0 ld act0 wi0 (f_Ta_readLevel_L39 (f_Ta_readLevel F) fu (nI 4) (nI o) (nI 120) (nI j) (nI k) (nI (cl + e.length)) (nI i) letters code) (f_Mo_product_L4 recM fuM (nI k) (nI i) (-nI 1) (nI o) (nI (ld + e.length)) tape act wi) := by
  intro w
  induction w with
  | zero =>
    intro i i0 cl ld j fu fuM e code act wi code0 act0 wi0 hw hi0 hik hel hcl hld hj hfu hfuM he hf1 hf2 hf3 hf4
    obtain ⟨g, rfl⟩ : ∃ g, fu = g + 1 := ⟨fu - 1, by omega⟩
    obtain ⟨gM, rfl⟩ : ∃ g, fuM = g + 1 := ⟨fuM - 1, by omega⟩
    obtain ⟨lc, lm, s1, s2, s3⟩ := see hk hc hik
    rcases s3 with ⟨m, hm128, hlt, hcm, rfl, rfl⟩ | ⟨o1, o2, _⟩
    · omega
    · refine Or.inl ⟨e, i, he, hi0, hik, hel, code, act, wi, ?_, ?_, hf1, hf2, hf3, hf4⟩
      · rw [f_Ta_readLevel_L39]
        simp (disch := omega) only [n_lt, n_le, n_eq, n_cl, n_sub, nI_add, pk_mul, n_subL, n_Lsub, n_neN, n_Nne, n_leN, n_ltN, n_Nlt, n_Nle, le_T, le_F, lt_T, lt_F, eq_T, eq_F, true_or, or_true, false_or, or_false, true_and, and_true, false_and, and_false, and_self, or_self, not_true_eq_false, not_false_eq_true, decide_eq_true_eq, decide_true, decide_false, Bool.false_eq_true, Bool.true_eq_false, eq_self, ↓reduceIte, Option.bind_some, mo_in, lit_0, lit_1, lit_2, lit_3, lit_4, lit_5, lit_6, lit_7, lit_8, lit_9, lit_10, lit_11, lit_12, lit_13, lit_14, lit_15, lit_16, lit_20, lit_22, lit_24, lit_28, lit_30, lit_31, lit_32, lit_39, lit_40, lit_42, lit_48, lit_50, lit_57, lit_60, lit_61, lit_62, lit_63, lit_64, lit_100, lit_120, lit_121, lit_122, lit_128, lit_130, lit_255, lit_256, lit_360, lit_1024, lit_2147483647, m1_pred, Nat.add_sub_cancel, lit_124, lit_38, lit_37, lit_33, lit_126, lit_59, lit_112, lit_108, lit_110, lit_104, lit_47, lit_43, lit_45, lit_41, lit_123, lit_49, lit_58, lit_68, s1, lvl_oth o1]
      · rw [f_Mo_product_L4]
        simp (disch := omega) only [n_lt, n_le, n_eq, n_cl, n_sub, nI_add, pk_mul, n_subL, n_Lsub, n_neN, n_Nne, n_leN, n_ltN, n_Nlt, n_Nle, le_T, le_F, lt_T, lt_F, eq_T, eq_F, true_or, or_true, false_or, or_false, true_and, and_true, false_and, and_false, and_self, or_self, not_true_eq_false, not_false_eq_true, decide_eq_true_eq, decide_true, decide_false, Bool.false_eq_true, Bool.true_eq_false, eq_self, ↓reduceIte, Option.bind_some, mo_in, lit_0, lit_1, lit_2, lit_3, lit_4, lit_5, lit_6, lit_7, lit_8, lit_9, lit_10, lit_11, lit_12, lit_13, lit_14, lit_15, lit_16, lit_20, lit_22, lit_24, lit_28, lit_30, lit_31, lit_32, lit_39, lit_40, lit_42, lit_48, lit_50, lit_57, lit_60, lit_61, lit_62, lit_63, lit_64, lit_100, lit_120, lit_121, lit_122, lit_128, lit_130, lit_255, lit_256, lit_360, lit_1024, lit_2147483647, m1_pred, Nat.add_sub_cancel, lit_124, lit_38, lit_37, lit_33, lit_126, lit_59, lit_112, lit_108, lit_110, lit_104, lit_47, lit_43, lit_45, lit_41, lit_123, lit_49, lit_58, lit_68, s2, o2.1 42 (by omega), o2.1 47 (by omega), o2.1 37 (by omega)]
  | succ w ih =>
    intro i i0 cl ld j fu fuM e code act wi code0 act0 wi0 hw hi0 hik hel hcl hld hj hfu hfuM he hf1 hf2 hf3 hf4
    obtain ⟨g, rfl⟩ : ∃ g, fu = g + 1 := ⟨fu - 1, by omega⟩
    obtain ⟨gM, rfl⟩ : ∃ g, fuM = g + 1 := ⟨fuM - 1, by omega⟩
    obtain ⟨lc, lm, s1, s2, s3⟩ := see hk hc hik
    rcases s3 with ⟨m, hm128, hlt, hcm, rfl, rfl⟩ | ⟨o1, o2, _⟩
    rotate_left
    · refine Or.inl ⟨e, i, he, hi0, hik, hel, code, act, wi, ?_, ?_, hf1, hf2, hf3, hf4⟩
      · rw [f_Ta_readLevel_L39]
        simp (disch := omega) only [n_lt, n_le, n_eq, n_cl, n_sub, nI_add, pk_mul, n_subL, n_Lsub, n_neN, n_Nne, n_leN, n_ltN, n_Nlt, n_Nle, le_T, le_F, lt_T, lt_F, eq_T, eq_F, true_or, or_true, false_or, or_false, true_and, and_true, false_and, and_false, and_self, or_self, not_true_eq_false, not_false_eq_true, decide_eq_true_eq, decide_true, decide_false, Bool.false_eq_true, Bool.true_eq_false, eq_self, ↓reduceIte, Option.bind_some, mo_in, lit_0, lit_1, lit_2, lit_3, lit_4, lit_5, lit_6, lit_7, lit_8, lit_9, lit_10, lit_11, lit_12, lit_13, lit_14, lit_15, lit_16, lit_20, lit_22, lit_24, lit_28, lit_30, lit_31, lit_32, lit_39, lit_40, lit_42, lit_48, lit_50, lit_57, lit_60, lit_61, lit_62, lit_63, lit_64, lit_100, lit_120, lit_121, lit_122, lit_128, lit_130, lit_255, lit_256, lit_360, lit_1024, lit_2147483647, m1_pred, Nat.add_sub_cancel, lit_124, lit_38, lit_37, lit_33, lit_126, lit_59, lit_112, lit_108, lit_110, lit_104, lit_47, lit_43, lit_45, lit_41, lit_123, lit_49, lit_58, lit_68, s1, lvl_oth o1]
      · rw [f_Mo_product_L4]
        simp (disch := omega) only [n_lt, n_le, n_eq, n_cl, n_sub, nI_add, pk_mul, n_subL, n_Lsub, n_neN, n_Nne, n_leN, n_ltN, n_Nlt, n_Nle, le_T, le_F, lt_T, lt_F, eq_T, eq_F, true_or, or_true, false_or, or_false, true_and, and_true, false_and, and_false, and_self, or_self, not_true_eq_false, not_false_eq_true, decide_eq_true_eq, decide_true, decide_false, Bool.false_eq_true, Bool.true_eq_false, eq_self, ↓reduceIte, Option.bind_some, mo_in, lit_0, lit_1, lit_2, lit_3, lit_4, lit_5, lit_6, lit_7, lit_8, lit_9, lit_10, lit_11, lit_12, lit_13, lit_14, lit_15, lit_16, lit_20, lit_22, lit_24, lit_28, lit_30, lit_31, lit_32, lit_39, lit_40, lit_42, lit_48, lit_50, lit_57, lit_60, lit_61, lit_62, lit_63, lit_64, lit_100, lit_120, lit_121, lit_122, lit_128, lit_130, lit_255, lit_256, lit_360, lit_1024, lit_2147483647, m1_pred, Nat.add_sub_cancel, lit_124, lit_38, lit_37, lit_33, lit_126, lit_59, lit_112, lit_108, lit_110, lit_104, lit_47, lit_43, lit_45, lit_41, lit_123, lit_49, lit_58, lit_68, s2, o2.1 42 (by omega), o2.1 47 (by omega), o2.1 37 (by omega)]
    have hlv := lvl_of m hm128
    by_cases hop : m = 42 ∨ m = 47 ∨ m = 37
    rotate_left
    · have hne : (lvl m = nI 4) = False := eq_false (fun z => hop ((lvl_4 m hm128).mp z))
      refine Or.inl ⟨e, i, he, hi0, hik, hel, code, act, wi, ?_, ?_, hf1, hf2, hf3, hf4⟩
      · rw [f_Ta_readLevel_L39]
        simp (disch := omega) only [n_lt, n_le, n_eq, n_cl, n_sub, nI_add, pk_mul, n_subL, n_Lsub, n_neN, n_Nne, n_leN, n_ltN, n_Nlt, n_Nle, le_T, le_F, lt_T, lt_F, eq_T, eq_F, true_or, or_true, false_or, or_false, true_and, and_true, false_and, and_false, and_self, or_self, not_true_eq_false, not_false_eq_true, decide_eq_true_eq, decide_true, decide_false, Bool.false_eq_true, Bool.true_eq_false, eq_self, ↓reduceIte, Option.bind_some, mo_in, lit_0, lit_1, lit_2, lit_3, lit_4, lit_5, lit_6, lit_7, lit_8, lit_9, lit_10, lit_11, lit_12, lit_13, lit_14, lit_15, lit_16, lit_20, lit_22, lit_24, lit_28, lit_30, lit_31, lit_32, lit_39, lit_40, lit_42, lit_48, lit_50, lit_57, lit_60, lit_61, lit_62, lit_63, lit_64, lit_100, lit_120, lit_121, lit_122, lit_128, lit_130, lit_255, lit_256, lit_360, lit_1024, lit_2147483647, m1_pred, Nat.add_sub_cancel, lit_124, lit_38, lit_37, lit_33, lit_126, lit_59, lit_112, lit_108, lit_110, lit_104, lit_47, lit_43, lit_45, lit_41, lit_123, lit_49, lit_58, lit_68, s1, hlv, hne]
      · rw [f_Mo_product_L4]
        simp (disch := omega) only [n_lt, n_le, n_eq, n_cl, n_sub, nI_add, pk_mul, n_subL, n_Lsub, n_neN, n_Nne, n_leN, n_ltN, n_Nlt, n_Nle, le_T, le_F, lt_T, lt_F, eq_T, eq_F, true_or, or_true, false_or, or_false, true_and, and_true, false_and, and_false, and_self, or_self, not_true_eq_false, not_false_eq_true, decide_eq_true_eq, decide_true, decide_false, Bool.false_eq_true, Bool.true_eq_false, eq_self, ↓reduceIte, Option.bind_some, mo_in, lit_0, lit_1, lit_2, lit_3, lit_4, lit_5, lit_6, lit_7, lit_8, lit_9, lit_10, lit_11, lit_12, lit_13, lit_14, lit_15, lit_16, lit_20, lit_22, lit_24, lit_28, lit_30, lit_31, lit_32, lit_39, lit_40, lit_42, lit_48, lit_50, lit_57, lit_60, lit_61, lit_62, lit_63, lit_64, lit_100, lit_120, lit_121, lit_122, lit_128, lit_130, lit_255, lit_256, lit_360, lit_1024, lit_2147483647, m1_pred, Nat.add_sub_cancel, lit_124, lit_38, lit_37, lit_33, lit_126, lit_59, lit_112, lit_108, lit_110, lit_104, lit_47, lit_43, lit_45, lit_41, lit_123, lit_49, lit_58, lit_68, s2]
    have heq : (lvl m = nI 4) = True := eq_true ((lvl_4 m hm128).mpr hop)
    obtain ⟨hbin, hal⟩ := op_4 m hm128 hop
    have hbyte := fa_byte_small hm128
    have hopen : ∀ x : Option (Int32 × Int32 × Int32 × Int32 × (Nat → Int32) × (Nat → Int32)), (recM (nI k) (nI (i + 1)) (-nI 1) (nI o) (nI (ld + e.length)) tape act wi) = x → f_Mo_product_L4 recM (gM + 1) (nI k) (nI i) (-nI 1) (nI o) (nI (ld + e.length)) tape act wi = x.bind fun (u9, u10, u11, u12, u13, u14) => (f_Mo_addStep (nI m) (nI 0) u12 u13 u14).bind fun (u16, u17, u18) => f_Mo_product_L4 recM gM (nI k) u9 u10 u11 u16 tape u17 u18 := by
      intro x hx
      rw [f_Mo_product_L4]
      rcases hop with rfl | rfl | rfl
      · simp (disch := omega) only [n_lt, n_le, n_eq, n_cl, n_sub, nI_add, pk_mul, n_subL, n_Lsub, n_neN, n_Nne, n_leN, n_ltN, n_Nlt, n_Nle, le_T, le_F, lt_T, lt_F, eq_T, eq_F, true_or, or_true, false_or, or_false, true_and, and_true, false_and, and_false, and_self, or_self, not_true_eq_false, not_false_eq_true, decide_eq_true_eq, decide_true, decide_false, Bool.false_eq_true, Bool.true_eq_false, eq_self, ↓reduceIte, Option.bind_some, mo_in, lit_0, lit_1, lit_2, lit_3, lit_4, lit_5, lit_6, lit_7, lit_8, lit_9, lit_10, lit_11, lit_12, lit_13, lit_14, lit_15, lit_16, lit_20, lit_22, lit_24, lit_28, lit_30, lit_31, lit_32, lit_39, lit_40, lit_42, lit_48, lit_50, lit_57, lit_60, lit_61, lit_62, lit_63, lit_64, lit_100, lit_120, lit_121, lit_122, lit_128, lit_130, lit_255, lit_256, lit_360, lit_1024, lit_2147483647, m1_pred, Nat.add_sub_cancel, lit_124, lit_38, lit_37, lit_33, lit_126, lit_59, lit_112, lit_108, lit_110, lit_104, lit_47, lit_43, lit_45, lit_41, lit_123, lit_49, lit_58, lit_68, s2, hx, f_Mo_product_L38]
      · simp (disch := omega) only [n_lt, n_le, n_eq, n_cl, n_sub, nI_add, pk_mul, n_subL, n_Lsub, n_neN, n_Nne, n_leN, n_ltN, n_Nlt, n_Nle, le_T, le_F, lt_T, lt_F, eq_T, eq_F, true_or, or_true, false_or, or_false, true_and, and_true, false_and, and_false, and_self, or_self, not_true_eq_false, not_false_eq_true, decide_eq_true_eq, decide_true, decide_false, Bool.false_eq_true, Bool.true_eq_false, eq_self, ↓reduceIte, Option.bind_some, mo_in, lit_0, lit_1, lit_2, lit_3, lit_4, lit_5, lit_6, lit_7, lit_8, lit_9, lit_10, lit_11, lit_12, lit_13, lit_14, lit_15, lit_16, lit_20, lit_22, lit_24, lit_28, lit_30, lit_31, lit_32, lit_39, lit_40, lit_42, lit_48, lit_50, lit_57, lit_60, lit_61, lit_62, lit_63, lit_64, lit_100, lit_120, lit_121, lit_122, lit_128, lit_130, lit_255, lit_256, lit_360, lit_1024, lit_2147483647, m1_pred, Nat.add_sub_cancel, lit_124, lit_38, lit_37, lit_33, lit_126, lit_59, lit_112, lit_108, lit_110, lit_104, lit_47, lit_43, lit_45, lit_41, lit_123, lit_49, lit_58, lit_68, s2, hx, f_Mo_product_L38]
      · simp (disch := omega) only [n_lt, n_le, n_eq, n_cl, n_sub, nI_add, pk_mul, n_subL, n_Lsub, n_neN, n_Nne, n_leN, n_ltN, n_Nlt, n_Nle, le_T, le_F, lt_T, lt_F, eq_T, eq_F, true_or, or_true, false_or, or_false, true_and, and_true, false_and, and_false, and_self, or_self, not_true_eq_false, not_false_eq_true, decide_eq_true_eq, decide_true, decide_false, Bool.false_eq_true, Bool.true_eq_false, eq_self, ↓reduceIte, Option.bind_some, mo_in, lit_0, lit_1, lit_2, lit_3, lit_4, lit_5, lit_6, lit_7, lit_8, lit_9, lit_10, lit_11, lit_12, lit_13, lit_14, lit_15, lit_16, lit_20, lit_22, lit_24, lit_28, lit_30, lit_31, lit_32, lit_39, lit_40, lit_42, lit_48, lit_50, lit_57, lit_60, lit_61, lit_62, lit_63, lit_64, lit_100, lit_120, lit_121, lit_122, lit_128, lit_130, lit_255, lit_256, lit_360, lit_1024, lit_2147483647, m1_pred, Nat.add_sub_cancel, lit_124, lit_38, lit_37, lit_33, lit_126, lit_59, lit_112, lit_108, lit_110, lit_104, lit_47, lit_43, lit_45, lit_41, lit_123, lit_49, lit_58, lit_68, s2, hx, f_Mo_product_L38]
    have hopc : ∀ x : Option (Bool × Int32 × Int32 × (Nat → Int32)), f_Ta_readLevel F (nI (4 + 1)) (nI o) (nI k) (nI (cl + e.length)) (nI (i + 1)) letters code = x → f_Ta_readLevel_L39 (f_Ta_readLevel F) (g + 1) (nI 4) (nI o) (nI 120) (nI j) (nI k) (nI (cl + e.length)) (nI i) letters code = x.bind fun (r7, u8, u9, u10) => if r7 = true then (f_Ta_write (-nI m) u8 u10).bind fun (u12, u13) => f_Ta_readLevel_L39 (f_Ta_readLevel F) g (nI 4) (nI o) (nI 120) (nI (j + 1)) (nI k) u12 u9 letters u13 else some (false, u8, u9, u10) := by
      intro x hx
      rw [f_Ta_readLevel_L39, ← hx]
      simp (disch := omega) only [n_lt, n_le, n_eq, n_cl, n_sub, nI_add, pk_mul, n_subL, n_Lsub, n_neN, n_Nne, n_leN, n_ltN, n_Nlt, n_Nle, le_T, le_F, lt_T, lt_F, eq_T, eq_F, true_or, or_true, false_or, or_false, true_and, and_true, false_and, and_false, and_self, or_self, not_true_eq_false, not_false_eq_true, decide_eq_true_eq, decide_true, decide_false, Bool.false_eq_true, Bool.true_eq_false, eq_self, ↓reduceIte, Option.bind_some, mo_in, lit_0, lit_1, lit_2, lit_3, lit_4, lit_5, lit_6, lit_7, lit_8, lit_9, lit_10, lit_11, lit_12, lit_13, lit_14, lit_15, lit_16, lit_20, lit_22, lit_24, lit_28, lit_30, lit_31, lit_32, lit_39, lit_40, lit_42, lit_48, lit_50, lit_57, lit_60, lit_61, lit_62, lit_63, lit_64, lit_100, lit_120, lit_121, lit_122, lit_128, lit_130, lit_255, lit_256, lit_360, lit_1024, lit_2147483647, m1_pred, Nat.add_sub_cancel, lit_124, lit_38, lit_37, lit_33, lit_126, lit_59, lit_112, lit_108, lit_110, lit_104, lit_47, lit_43, lit_45, lit_41, lit_123, lit_49, lit_58, lit_68, s1, hlv, heq]
    rcases sub (i + 1) (cl + e.length) (ld + e.length) code act wi (by omega) (by omega) (by omega) with ⟨e2, i2, ok1, ok2, ok3, ok4, code', act', wi', g1, g2, g3, g4, g5, g6⟩ | ⟨q, h, ld', r, cl', op', code', act', wi', b1, b2, b3, b4, b5, b6, b7, b8⟩
    · have hlen : (e ++ e2 ++ [-nI m]).length = e.length + e2.length + 1 := by simp; omega
      have hlen2 : (e ++ e2).length = e.length + e2.length := by simp
      have c1 := ha_snoc (s := -nI m) (ha_app hf2 g4 g3)
      have c2 := hm_snoc (s := -nI m) (hm_app hf4 (by rw [show 130 + ld + e.length = 130 + (ld + e.length) by omega]; exact g6) (fun j hj => g5 j (by omega))) hal
      rw [hlen2, show cl + (e.length + e2.length) = cl + e.length + e2.length by omega] at c1
      rw [hlen2, show 130 + ld + (e.length + e2.length) = 130 + (ld + e.length + e2.length) by omega] at c2
      have hih := ih i2 i0 cl ld (j + 1) g gM (e ++ e2 ++ [-nI m]) _ _ _ code0 act0 wi0 (by omega) (by omega) ok3 (by rw [hlen]; omega) hcl hld (by omega) (by omega) (by omega) (okE_bin he ok1 hbin) (fun j hj => by rw [pk_un (by omega), g3 j (by omega)]; exact hf1 j hj) c1 (fun j hj => by rw [pk_un (by omega), pk_un (by omega), (g5 j (by omega)).1, (g5 j (by omega)).2]; exact hf3 j hj) c2
      rw [hlen, show cl + (e.length + e2.length + 1) = cl + e.length + e2.length + 1 by omega, show ld + (e.length + e2.length + 1) = ld + e.length + e2.length + 1 by omega] at hih
      rw [hopc _ g1, hopen _ g2]
      simp only [Option.bind_some, if_true, ta_write (show cl + e.length + e2.length < 256 by omega), mo_add (show ld + e.length + e2.length < 130 by omega), hbyte]
      exact hih
    · refine Or.inr ?_
      obtain ⟨ga, gb, gw⟩ := ta_write_any (-nI m) cl' code'
      obtain ⟨gm, hgm⟩ : ∃ x, gM = x + 1 := ⟨gM - 1, by omega⟩
      obtain ⟨gc, hgc⟩ : ∃ x, g = x + 1 := ⟨g - 1, by omega⟩
      have hM : f_Mo_product_L4 recM gM (nI k) (nI h) (nI q) op' (nI (ld' + 1)) tape (upd act' (130 + ld') (nI m)) (upd wi' (130 + ld') (nI 0)) = some (nI h, nI q, op', nI (ld' + 1), upd act' (130 + ld') (nI m), upd wi' (130 + ld') (nI 0)) := by
        rw [hgm, f_Mo_product_L4]
        simp (disch := omega) only [n_lt, n_le, n_eq, n_cl, n_sub, nI_add, pk_mul, n_subL, n_Lsub, n_neN, n_Nne, n_leN, n_ltN, n_Nlt, n_Nle, le_T, le_F, lt_T, lt_F, eq_T, eq_F, true_or, or_true, false_or, or_false, true_and, and_true, false_and, and_false, and_self, or_self, not_true_eq_false, not_false_eq_true, decide_eq_true_eq, decide_true, decide_false, Bool.false_eq_true, Bool.true_eq_false, eq_self, ↓reduceIte, Option.bind_some, mo_in, lit_0, lit_1, lit_2, lit_3, lit_4, lit_5, lit_6, lit_7, lit_8, lit_9, lit_10, lit_11, lit_12, lit_13, lit_14, lit_15, lit_16, lit_20, lit_22, lit_24, lit_28, lit_30, lit_31, lit_32, lit_39, lit_40, lit_42, lit_48, lit_50, lit_57, lit_60, lit_61, lit_62, lit_63, lit_64, lit_100, lit_120, lit_121, lit_122, lit_128, lit_130, lit_255, lit_256, lit_360, lit_1024, lit_2147483647, m1_pred, Nat.add_sub_cancel, lit_124, lit_38, lit_37, lit_33, lit_126, lit_59, lit_112, lit_108, lit_110, lit_104, lit_47, lit_43, lit_45, lit_41, lit_123, lit_49, lit_58, lit_68]
      have hfr : ∀ j, j < 130 + ld → upd act' (130 + ld') (nI m) j = act0 j ∧ upd wi' (130 + ld') (nI 0) j = wi0 j := fun j hj => by
        by_cases c5 : j = 130 + ld'
        · exfalso; omega
        · rw [pk_un c5, pk_un c5, (b8 j (by omega)).1, (b8 j (by omega)).2]; exact hf3 j hj
      cases r with
      | false =>
        refine ⟨q, h, ld' + 1, false, cl', op', code', _, _, b1, b2, by omega, by omega, ?_, fun z => (by cases z), ?_, hfr⟩
        · rw [hopc _ b5]; rfl
        · rw [hopen _ b7]
          simp only [Option.bind_some, mo_add (show ld' < 130 by omega), hbyte]
          exact hM
      | true =>
        obtain ⟨d1, d2, d3⟩ := b6 rfl
        refine ⟨q, h, ld' + 1, true, ga, op', gb, _, _, b1, b2, by omega, by omega, ?_, b6, ?_, hfr⟩
        · rw [hopc _ b5]
          simp only [Option.bind_some, if_true, gw]
          rw [hgc]
          exact stop_dig hk hc (by omega) d1 d2 d3 _ _ _ _ _
        · rw [hopen _ b7]
          simp only [Option.bind_some, mo_add (show ld' < 130 by omega), hbyte]
          exact hM
theorem lv_product {k : Nat} {letters tape : Nat → Int32} {c : Nat → Nat} (hk : k ≤ 120) (hc : ∀ j, j < k → c j < 256 ∧ letters j = nI (c j) ∧ tape j = (nI (c j)).toInt8.toInt32) {F o : Nat} {recM : Int32 → Int32 → Int32 → Int32 → Int32 → (Nat → Int32) → (Nat → Int32) → (Nat → Int32) → Option (Int32 × Int32 × Int32 × Int32 × (Nat → Int32) × (Nat → Int32))} (sub : PO k c o (fun cl at_ code => f_Ta_readLevel F (nI 5) (nI o) (nI k) cl at_ letters code) (fun h f op la act wi => recM (nI k) h f op la tape act wi)) : PO k c o (fun cl at_ code => f_Ta_readLevel (F + 1) (nI 4) (nI o) (nI k) cl at_ letters code) (fun h f op la act wi => f_Mo_product recM (nI k) h f op la tape act wi) := by
  intro i cl ld code act wi hi hcl hld
  have hopc : ∀ x : Option (Bool × Int32 × Int32 × (Nat → Int32)), f_Ta_readLevel F (nI (4 + 1)) (nI o) (nI k) (nI cl) (nI i) letters code = x → f_Ta_readLevel (F + 1) (nI 4) (nI o) (nI k) (nI cl) (nI i) letters code = x.bind fun (r15, u16, u17, u18) => if r15 = true then f_Ta_readLevel_L39 (f_Ta_readLevel F) 3000 (nI 4) (nI o) (nI 120) (nI 0) (nI k) u16 u17 letters u18 else some (false, u16, u17, u18) := by
    intro x hx
    rw [f_Ta_readLevel, f_Ta_readLevel_body, ← hx]
    simp (disch := omega) only [n_lt, n_le, n_eq, n_cl, n_sub, nI_add, pk_mul, n_subL, n_Lsub, n_neN, n_Nne, n_leN, n_ltN, n_Nlt, n_Nle, le_T, le_F, lt_T, lt_F, eq_T, eq_F, true_or, or_true, false_or, or_false, true_and, and_true, false_and, and_false, and_self, or_self, not_true_eq_false, not_false_eq_true, decide_eq_true_eq, decide_true, decide_false, Bool.false_eq_true, Bool.true_eq_false, eq_self, ↓reduceIte, Option.bind_some, mo_in, lit_0, lit_1, lit_2, lit_3, lit_4, lit_5, lit_6, lit_7, lit_8, lit_9, lit_10, lit_11, lit_12, lit_13, lit_14, lit_15, lit_16, lit_20, lit_22, lit_24, lit_28, lit_30, lit_31, lit_32, lit_39, lit_40, lit_42, lit_48, lit_50, lit_57, lit_60, lit_61, lit_62, lit_63, lit_64, lit_100, lit_120, lit_121, lit_122, lit_128, lit_130, lit_255, lit_256, lit_360, lit_1024, lit_2147483647, m1_pred, Nat.add_sub_cancel, lit_124, lit_38, lit_37, lit_33, lit_126, lit_59, lit_112, lit_108, lit_110, lit_104, lit_47, lit_43, lit_45, lit_41, lit_123, lit_49, lit_58, lit_68, f_Ta_readLevel_L35]
  have hopm : ∀ x : Option (Int32 × Int32 × Int32 × Int32 × (Nat → Int32) × (Nat → Int32)), recM (nI k) (nI i) (-nI 1) (nI o) (nI ld) tape act wi = x → f_Mo_product recM (nI k) (nI i) (-nI 1) (nI o) (nI ld) tape act wi = x.bind fun (u20, u21, u22, u23, u24, u25) => f_Mo_product_L4 recM 3000 (nI k) u20 u21 u22 u23 tape u24 u25 := by
    intro x hx
    rw [f_Mo_product, hx]
  rcases sub i cl ld code act wi hi hcl hld with ⟨e2, i2, ok1, ok2, ok3, ok4, code', act', wi', g1, g2, g3, g4, g5, g6⟩ | ⟨q, h, ld', r, cl', op', code', act', wi', b1, b2, b3, b4, b5, b6, b7, b8⟩
  · have hlo := lo_product hk hc sub 200 i2 i cl ld 0 3000 3000 e2 code' act' wi' code act wi (by omega) ok2 ok3 ok4 hcl hld (by omega) (by omega) (by omega) ok1 g3 g4 g5 g6
    show (∃ e i', okS k i o cl ld code act wi e i' (f_Ta_readLevel (F + 1) (nI 4) (nI o) (nI k) (nI cl) (nI i) letters code) (f_Mo_product recM (nI k) (nI i) (-nI 1) (nI o) (nI ld) tape act wi)) ∨ okF k c i ld act wi (f_Ta_readLevel (F + 1) (nI 4) (nI o) (nI k) (nI cl) (nI i) letters code) (f_Mo_product recM (nI k) (nI i) (-nI 1) (nI o) (nI ld) tape act wi)
    rw [hopc _ g1, hopm _ g2]
    exact hlo
  · have hM : f_Mo_product_L4 recM 3000 (nI k) (nI h) (nI q) op' (nI ld') tape act' wi' = some (nI h, nI q, op', nI ld', act', wi') := by
      rw [show (3000 : Nat) = 2999 + 1 from rfl, f_Mo_product_L4]
      simp (disch := omega) only [n_lt, n_le, n_eq, n_cl, n_sub, nI_add, pk_mul, n_subL, n_Lsub, n_neN, n_Nne, n_leN, n_ltN, n_Nlt, n_Nle, le_T, le_F, lt_T, lt_F, eq_T, eq_F, true_or, or_true, false_or, or_false, true_and, and_true, false_and, and_false, and_self, or_self, not_true_eq_false, not_false_eq_true, decide_eq_true_eq, decide_true, decide_false, Bool.false_eq_true, Bool.true_eq_false, eq_self, ↓reduceIte, Option.bind_some, mo_in, lit_0, lit_1, lit_2, lit_3, lit_4, lit_5, lit_6, lit_7, lit_8, lit_9, lit_10, lit_11, lit_12, lit_13, lit_14, lit_15, lit_16, lit_20, lit_22, lit_24, lit_28, lit_30, lit_31, lit_32, lit_39, lit_40, lit_42, lit_48, lit_50, lit_57, lit_60, lit_61, lit_62, lit_63, lit_64, lit_100, lit_120, lit_121, lit_122, lit_128, lit_130, lit_255, lit_256, lit_360, lit_1024, lit_2147483647, m1_pred, Nat.add_sub_cancel, lit_124, lit_38, lit_37, lit_33, lit_126, lit_59, lit_112, lit_108, lit_110, lit_104, lit_47, lit_43, lit_45, lit_41, lit_123, lit_49, lit_58, lit_68]
    refine Or.inr ⟨q, h, ld', r, cl', op', code', act', wi', b1, b2, b3, b4, ?_, b6, (hopm _ b7).trans hM, b8⟩
    cases r with
    | false => exact (hopc _ b5).trans rfl
    | true =>
      obtain ⟨d1, d2, d3⟩ := b6 rfl
      refine (hopc _ b5).trans ?_
      simp only [Option.bind_some, if_true]
      exact stop_dig (fu := 2999) hk hc (by omega) d1 d2 d3 _ _ _ _ _
theorem lo_sum {k : Nat} {letters tape : Nat → Int32} {c : Nat → Nat} (hk : k ≤ 120) (hc : ∀ j, j < k → c j < 256 ∧ letters j = nI (c j) ∧ tape j = (nI (c j)).toInt8.toInt32) {F o : Nat} {recM : Int32 → Int32 → Int32 → Int32 → Int32 → (Nat → Int32) → (Nat → Int32) → (Nat → Int32) → Option (Int32 × Int32 × Int32 × Int32 × (Nat → Int32) × (Nat → Int32))} (sub : PO k c o (fun cl at_ code => f_Ta_readLevel F (nI 4) (nI o) (nI k) cl at_ letters code) (fun h f op la act wi => f_Mo_product recM (nI k) h f op la tape act wi)) : ∀ (w i i0 cl ld j fu fuM : Nat) (e : List Int32) (code act wi code0 act0 wi0 : Nat → Int32), k - i ≤ w → i0 < i → i ≤ k → i0 + e.length ≤ i → cl ≤ i0 → ld ≤ i0 → 2 * j ≤ i → w + 1 < fu → w + 1 < fuM → lw_okE e → (∀ j, j < cl → code j = code0 j) → ha code cl e → (∀ j, j < 130 + ld → act j = act0 j ∧ wi j = wi0 j) → hm act wi (130 + ld) e → (∃ e' i', okS k i0 o cl ld code0 act0 wi0 e' i' (f_Ta_readLevel_L39 (f_Ta_readLevel F) fu (nI 3) (nI o) (nI 120) (nI j) (nI k) (nI (cl + e.length)) (nI i) letters code) (f_Mo_sum_L4 recM fuM (nI k) (nI i) (-nI 1) (nI o) (nI (ld + e.length)) tape act wi)) ∨ okF k c i0 ld act0 wi0 (f_Ta_readLevel_L39 (f_Ta_readLevel F) fu (nI 3) (nI o) (nI 120) (nI j) (nI k) (nI (cl + e.length)) (nI i) letters code) (f_Mo_sum_L4 recM fuM (nI k) (nI i) (-nI 1) (nI o) (nI (ld + e.length)) tape act wi) := by
  intro w
  induction w with
  | zero =>
    intro i i0 cl ld j fu fuM e code act wi code0 act0 wi0 hw hi0 hik hel hcl hld hj hfu hfuM he hf1 hf2 hf3 hf4
    obtain ⟨g, rfl⟩ : ∃ g, fu = g + 1 := ⟨fu - 1, by omega⟩
    obtain ⟨gM, rfl⟩ : ∃ g, fuM = g + 1 := ⟨fuM - 1, by omega⟩
    obtain ⟨lc, lm, s1, s2, s3⟩ := see hk hc hik
    rcases s3 with ⟨m, hm128, hlt, hcm, rfl, rfl⟩ | ⟨o1, o2, _⟩
    · omega
    · refine Or.inl ⟨e, i, he, hi0, hik, hel, code, act, wi, ?_, ?_, hf1, hf2, hf3, hf4⟩
      · rw [f_Ta_readLevel_L39]
        simp (disch := omega) only [n_lt, n_le, n_eq, n_cl, n_sub, nI_add, pk_mul, n_subL, n_Lsub, n_neN, n_Nne, n_leN, n_ltN, n_Nlt, n_Nle, le_T, le_F, lt_T, lt_F, eq_T, eq_F, true_or, or_true, false_or, or_false, true_and, and_true, false_and, and_false, and_self, or_self, not_true_eq_false, not_false_eq_true, decide_eq_true_eq, decide_true, decide_false, Bool.false_eq_true, Bool.true_eq_false, eq_self, ↓reduceIte, Option.bind_some, mo_in, lit_0, lit_1, lit_2, lit_3, lit_4, lit_5, lit_6, lit_7, lit_8, lit_9, lit_10, lit_11, lit_12, lit_13, lit_14, lit_15, lit_16, lit_20, lit_22, lit_24, lit_28, lit_30, lit_31, lit_32, lit_39, lit_40, lit_42, lit_48, lit_50, lit_57, lit_60, lit_61, lit_62, lit_63, lit_64, lit_100, lit_120, lit_121, lit_122, lit_128, lit_130, lit_255, lit_256, lit_360, lit_1024, lit_2147483647, m1_pred, Nat.add_sub_cancel, lit_124, lit_38, lit_37, lit_33, lit_126, lit_59, lit_112, lit_108, lit_110, lit_104, lit_47, lit_43, lit_45, lit_41, lit_123, lit_49, lit_58, lit_68, s1, lvl_oth o1]
      · rw [f_Mo_sum_L4]
        simp (disch := omega) only [n_lt, n_le, n_eq, n_cl, n_sub, nI_add, pk_mul, n_subL, n_Lsub, n_neN, n_Nne, n_leN, n_ltN, n_Nlt, n_Nle, le_T, le_F, lt_T, lt_F, eq_T, eq_F, true_or, or_true, false_or, or_false, true_and, and_true, false_and, and_false, and_self, or_self, not_true_eq_false, not_false_eq_true, decide_eq_true_eq, decide_true, decide_false, Bool.false_eq_true, Bool.true_eq_false, eq_self, ↓reduceIte, Option.bind_some, mo_in, lit_0, lit_1, lit_2, lit_3, lit_4, lit_5, lit_6, lit_7, lit_8, lit_9, lit_10, lit_11, lit_12, lit_13, lit_14, lit_15, lit_16, lit_20, lit_22, lit_24, lit_28, lit_30, lit_31, lit_32, lit_39, lit_40, lit_42, lit_48, lit_50, lit_57, lit_60, lit_61, lit_62, lit_63, lit_64, lit_100, lit_120, lit_121, lit_122, lit_128, lit_130, lit_255, lit_256, lit_360, lit_1024, lit_2147483647, m1_pred, Nat.add_sub_cancel, lit_124, lit_38, lit_37, lit_33, lit_126, lit_59, lit_112, lit_108, lit_110, lit_104, lit_47, lit_43, lit_45, lit_41, lit_123, lit_49, lit_58, lit_68, s2, o2.1 43 (by omega), o2.1 45 (by omega)]
  | succ w ih =>
    intro i i0 cl ld j fu fuM e code act wi code0 act0 wi0 hw hi0 hik hel hcl hld hj hfu hfuM he hf1 hf2 hf3 hf4
    obtain ⟨g, rfl⟩ : ∃ g, fu = g + 1 := ⟨fu - 1, by omega⟩
    obtain ⟨gM, rfl⟩ : ∃ g, fuM = g + 1 := ⟨fuM - 1, by omega⟩
    obtain ⟨lc, lm, s1, s2, s3⟩ := see hk hc hik
    rcases s3 with ⟨m, hm128, hlt, hcm, rfl, rfl⟩ | ⟨o1, o2, _⟩
    rotate_left
    · refine Or.inl ⟨e, i, he, hi0, hik, hel, code, act, wi, ?_, ?_, hf1, hf2, hf3, hf4⟩
      · rw [f_Ta_readLevel_L39]
        simp (disch := omega) only [n_lt, n_le, n_eq, n_cl, n_sub, nI_add, pk_mul, n_subL, n_Lsub, n_neN, n_Nne, n_leN, n_ltN, n_Nlt, n_Nle, le_T, le_F, lt_T, lt_F, eq_T, eq_F, true_or, or_true, false_or, or_false, true_and, and_true, false_and, and_false, and_self, or_self, not_true_eq_false, not_false_eq_true, decide_eq_true_eq, decide_true, decide_false, Bool.false_eq_true, Bool.true_eq_false, eq_self, ↓reduceIte, Option.bind_some, mo_in, lit_0, lit_1, lit_2, lit_3, lit_4, lit_5, lit_6, lit_7, lit_8, lit_9, lit_10, lit_11, lit_12, lit_13, lit_14, lit_15, lit_16, lit_20, lit_22, lit_24, lit_28, lit_30, lit_31, lit_32, lit_39, lit_40, lit_42, lit_48, lit_50, lit_57, lit_60, lit_61, lit_62, lit_63, lit_64, lit_100, lit_120, lit_121, lit_122, lit_128, lit_130, lit_255, lit_256, lit_360, lit_1024, lit_2147483647, m1_pred, Nat.add_sub_cancel, lit_124, lit_38, lit_37, lit_33, lit_126, lit_59, lit_112, lit_108, lit_110, lit_104, lit_47, lit_43, lit_45, lit_41, lit_123, lit_49, lit_58, lit_68, s1, lvl_oth o1]
      · rw [f_Mo_sum_L4]
        simp (disch := omega) only [n_lt, n_le, n_eq, n_cl, n_sub, nI_add, pk_mul, n_subL, n_Lsub, n_neN, n_Nne, n_leN, n_ltN, n_Nlt, n_Nle, le_T, le_F, lt_T, lt_F, eq_T, eq_F, true_or, or_true, false_or, or_false, true_and, and_true, false_and, and_false, and_self, or_self, not_true_eq_false, not_false_eq_true, decide_eq_true_eq, decide_true, decide_false, Bool.false_eq_true, Bool.true_eq_false, eq_self, ↓reduceIte, Option.bind_some, mo_in, lit_0, lit_1, lit_2, lit_3, lit_4, lit_5, lit_6, lit_7, lit_8, lit_9, lit_10, lit_11, lit_12, lit_13, lit_14, lit_15, lit_16, lit_20, lit_22, lit_24, lit_28, lit_30, lit_31, lit_32, lit_39, lit_40, lit_42, lit_48, lit_50, lit_57, lit_60, lit_61, lit_62, lit_63, lit_64, lit_100, lit_120, lit_121, lit_122, lit_128, lit_130, lit_255, lit_256, lit_360, lit_1024, lit_2147483647, m1_pred, Nat.add_sub_cancel, lit_124, lit_38, lit_37, lit_33, lit_126, lit_59, lit_112, lit_108, lit_110, lit_104, lit_47, lit_43, lit_45, lit_41, lit_123, lit_49, lit_58, lit_68, s2, o2.1 43 (by omega), o2.1 45 (by omega)]
    have hlv := lvl_of m hm128
    by_cases hop : m = 43 ∨ m = 45
    rotate_left
    · have hne : (lvl m = nI 3) = False := eq_false (fun z => hop ((lvl_3 m hm128).mp z))
      refine Or.inl ⟨e, i, he, hi0, hik, hel, code, act, wi, ?_, ?_, hf1, hf2, hf3, hf4⟩
      · rw [f_Ta_readLevel_L39]
        simp (disch := omega) only [n_lt, n_le, n_eq, n_cl, n_sub, nI_add, pk_mul, n_subL, n_Lsub, n_neN, n_Nne, n_leN, n_ltN, n_Nlt, n_Nle, le_T, le_F, lt_T, lt_F, eq_T, eq_F, true_or, or_true, false_or, or_false, true_and, and_true, false_and, and_false, and_self, or_self, not_true_eq_false, not_false_eq_true, decide_eq_true_eq, decide_true, decide_false, Bool.false_eq_true, Bool.true_eq_false, eq_self, ↓reduceIte, Option.bind_some, mo_in, lit_0, lit_1, lit_2, lit_3, lit_4, lit_5, lit_6, lit_7, lit_8, lit_9, lit_10, lit_11, lit_12, lit_13, lit_14, lit_15, lit_16, lit_20, lit_22, lit_24, lit_28, lit_30, lit_31, lit_32, lit_39, lit_40, lit_42, lit_48, lit_50, lit_57, lit_60, lit_61, lit_62, lit_63, lit_64, lit_100, lit_120, lit_121, lit_122, lit_128, lit_130, lit_255, lit_256, lit_360, lit_1024, lit_2147483647, m1_pred, Nat.add_sub_cancel, lit_124, lit_38, lit_37, lit_33, lit_126, lit_59, lit_112, lit_108, lit_110, lit_104, lit_47, lit_43, lit_45, lit_41, lit_123, lit_49, lit_58, lit_68, s1, hlv, hne]
      · rw [f_Mo_sum_L4]
        simp (disch := omega) only [n_lt, n_le, n_eq, n_cl, n_sub, nI_add, pk_mul, n_subL, n_Lsub, n_neN, n_Nne, n_leN, n_ltN, n_Nlt, n_Nle, le_T, le_F, lt_T, lt_F, eq_T, eq_F, true_or, or_true, false_or, or_false, true_and, and_true, false_and, and_false, and_self, or_self, not_true_eq_false, not_false_eq_true, decide_eq_true_eq, decide_true, decide_false, Bool.false_eq_true, Bool.true_eq_false, eq_self, ↓reduceIte, Option.bind_some, mo_in, lit_0, lit_1, lit_2, lit_3, lit_4, lit_5, lit_6, lit_7, lit_8, lit_9, lit_10, lit_11, lit_12, lit_13, lit_14, lit_15, lit_16, lit_20, lit_22, lit_24, lit_28, lit_30, lit_31, lit_32, lit_39, lit_40, lit_42, lit_48, lit_50, lit_57, lit_60, lit_61, lit_62, lit_63, lit_64, lit_100, lit_120, lit_121, lit_122, lit_128, lit_130, lit_255, lit_256, lit_360, lit_1024, lit_2147483647, m1_pred, Nat.add_sub_cancel, lit_124, lit_38, lit_37, lit_33, lit_126, lit_59, lit_112, lit_108, lit_110, lit_104, lit_47, lit_43, lit_45, lit_41, lit_123, lit_49, lit_58, lit_68, s2]
    have heq : (lvl m = nI 3) = True := eq_true ((lvl_3 m hm128).mpr hop)
    obtain ⟨hbin, hal⟩ := op_3 m hm128 hop
    have hbyte := fa_byte_small hm128
    have hopen : ∀ x : Option (Int32 × Int32 × Int32 × Int32 × (Nat → Int32) × (Nat → Int32)), (f_Mo_product recM (nI k) (nI (i + 1)) (-nI 1) (nI o) (nI (ld + e.length)) tape act wi) = x → f_Mo_sum_L4 recM (gM + 1) (nI k) (nI i) (-nI 1) (nI o) (nI (ld + e.length)) tape act wi = x.bind fun (u9, u10, u11, u12, u13, u14) => (f_Mo_addStep (nI m) (nI 0) u12 u13 u14).bind fun (u16, u17, u18) => f_Mo_sum_L4 recM gM (nI k) u9 u10 u11 u16 tape u17 u18 := by
      intro x hx
      rw [f_Mo_sum_L4]
      rcases hop with rfl | rfl
      · simp (disch := omega) only [n_lt, n_le, n_eq, n_cl, n_sub, nI_add, pk_mul, n_subL, n_Lsub, n_neN, n_Nne, n_leN, n_ltN, n_Nlt, n_Nle, le_T, le_F, lt_T, lt_F, eq_T, eq_F, true_or, or_true, false_or, or_false, true_and, and_true, false_and, and_false, and_self, or_self, not_true_eq_false, not_false_eq_true, decide_eq_true_eq, decide_true, decide_false, Bool.false_eq_true, Bool.true_eq_false, eq_self, ↓reduceIte, Option.bind_some, mo_in, lit_0, lit_1, lit_2, lit_3, lit_4, lit_5, lit_6, lit_7, lit_8, lit_9, lit_10, lit_11, lit_12, lit_13, lit_14, lit_15, lit_16, lit_20, lit_22, lit_24, lit_28, lit_30, lit_31, lit_32, lit_39, lit_40, lit_42, lit_48, lit_50, lit_57, lit_60, lit_61, lit_62, lit_63, lit_64, lit_100, lit_120, lit_121, lit_122, lit_128, lit_130, lit_255, lit_256, lit_360, lit_1024, lit_2147483647, m1_pred, Nat.add_sub_cancel, lit_124, lit_38, lit_37, lit_33, lit_126, lit_59, lit_112, lit_108, lit_110, lit_104, lit_47, lit_43, lit_45, lit_41, lit_123, lit_49, lit_58, lit_68, s2, hx, f_Mo_sum_L29]
      · simp (disch := omega) only [n_lt, n_le, n_eq, n_cl, n_sub, nI_add, pk_mul, n_subL, n_Lsub, n_neN, n_Nne, n_leN, n_ltN, n_Nlt, n_Nle, le_T, le_F, lt_T, lt_F, eq_T, eq_F, true_or, or_true, false_or, or_false, true_and, and_true, false_and, and_false, and_self, or_self, not_true_eq_false, not_false_eq_true, decide_eq_true_eq, decide_true, decide_false, Bool.false_eq_true, Bool.true_eq_false, eq_self, ↓reduceIte, Option.bind_some, mo_in, lit_0, lit_1, lit_2, lit_3, lit_4, lit_5, lit_6, lit_7, lit_8, lit_9, lit_10, lit_11, lit_12, lit_13, lit_14, lit_15, lit_16, lit_20, lit_22, lit_24, lit_28, lit_30, lit_31, lit_32, lit_39, lit_40, lit_42, lit_48, lit_50, lit_57, lit_60, lit_61, lit_62, lit_63, lit_64, lit_100, lit_120, lit_121, lit_122, lit_128, lit_130, lit_255, lit_256, lit_360, lit_1024, lit_2147483647, m1_pred, Nat.add_sub_cancel, lit_124, lit_38, lit_37, lit_33, lit_126, lit_59, lit_112, lit_108, lit_110, lit_104, lit_47, lit_43, lit_45, lit_41, lit_123, lit_49, lit_58, lit_68, s2, hx, f_Mo_sum_L29]
    have hopc : ∀ x : Option (Bool × Int32 × Int32 × (Nat → Int32)), f_Ta_readLevel F (nI (3 + 1)) (nI o) (nI k) (nI (cl + e.length)) (nI (i + 1)) letters code = x → f_Ta_readLevel_L39 (f_Ta_readLevel F) (g + 1) (nI 3) (nI o) (nI 120) (nI j) (nI k) (nI (cl + e.length)) (nI i) letters code = x.bind fun (r7, u8, u9, u10) => if r7 = true then (f_Ta_write (-nI m) u8 u10).bind fun (u12, u13) => f_Ta_readLevel_L39 (f_Ta_readLevel F) g (nI 3) (nI o) (nI 120) (nI (j + 1)) (nI k) u12 u9 letters u13 else some (false, u8, u9, u10) := by
      intro x hx
      rw [f_Ta_readLevel_L39, ← hx]
      simp (disch := omega) only [n_lt, n_le, n_eq, n_cl, n_sub, nI_add, pk_mul, n_subL, n_Lsub, n_neN, n_Nne, n_leN, n_ltN, n_Nlt, n_Nle, le_T, le_F, lt_T, lt_F, eq_T, eq_F, true_or, or_true, false_or, or_false, true_and, and_true, false_and, and_false, and_self, or_self, not_true_eq_false, not_false_eq_true, decide_eq_true_eq, decide_true, decide_false, Bool.false_eq_true, Bool.true_eq_false, eq_self, ↓reduceIte, Option.bind_some, mo_in, lit_0, lit_1, lit_2, lit_3, lit_4, lit_5, lit_6, lit_7, lit_8, lit_9, lit_10, lit_11, lit_12, lit_13, lit_14, lit_15, lit_16, lit_20, lit_22, lit_24, lit_28, lit_30, lit_31, lit_32, lit_39, lit_40, lit_42, lit_48, lit_50, lit_57, lit_60, lit_61, lit_62, lit_63, lit_64, lit_100, lit_120, lit_121, lit_122, lit_128, lit_130, lit_255, lit_256, lit_360, lit_1024, lit_2147483647, m1_pred, Nat.add_sub_cancel, lit_124, lit_38, lit_37, lit_33, lit_126, lit_59, lit_112, lit_108, lit_110, lit_104, lit_47, lit_43, lit_45, lit_41, lit_123, lit_49, lit_58, lit_68, s1, hlv, heq]
    rcases sub (i + 1) (cl + e.length) (ld + e.length) code act wi (by omega) (by omega) (by omega) with ⟨e2, i2, ok1, ok2, ok3, ok4, code', act', wi', g1, g2, g3, g4, g5, g6⟩ | ⟨q, h, ld', r, cl', op', code', act', wi', b1, b2, b3, b4, b5, b6, b7, b8⟩
    · have hlen : (e ++ e2 ++ [-nI m]).length = e.length + e2.length + 1 := by simp; omega
      have hlen2 : (e ++ e2).length = e.length + e2.length := by simp
      have c1 := ha_snoc (s := -nI m) (ha_app hf2 g4 g3)
      have c2 := hm_snoc (s := -nI m) (hm_app hf4 (by rw [show 130 + ld + e.length = 130 + (ld + e.length) by omega]; exact g6) (fun j hj => g5 j (by omega))) hal
      rw [hlen2, show cl + (e.length + e2.length) = cl + e.length + e2.length by omega] at c1
      rw [hlen2, show 130 + ld + (e.length + e2.length) = 130 + (ld + e.length + e2.length) by omega] at c2
      have hih := ih i2 i0 cl ld (j + 1) g gM (e ++ e2 ++ [-nI m]) _ _ _ code0 act0 wi0 (by omega) (by omega) ok3 (by rw [hlen]; omega) hcl hld (by omega) (by omega) (by omega) (okE_bin he ok1 hbin) (fun j hj => by rw [pk_un (by omega), g3 j (by omega)]; exact hf1 j hj) c1 (fun j hj => by rw [pk_un (by omega), pk_un (by omega), (g5 j (by omega)).1, (g5 j (by omega)).2]; exact hf3 j hj) c2
      rw [hlen, show cl + (e.length + e2.length + 1) = cl + e.length + e2.length + 1 by omega, show ld + (e.length + e2.length + 1) = ld + e.length + e2.length + 1 by omega] at hih
      rw [hopc _ g1, hopen _ g2]
      simp only [Option.bind_some, if_true, ta_write (show cl + e.length + e2.length < 256 by omega), mo_add (show ld + e.length + e2.length < 130 by omega), hbyte]
      exact hih
    · refine Or.inr ?_
      obtain ⟨ga, gb, gw⟩ := ta_write_any (-nI m) cl' code'
      obtain ⟨gm, hgm⟩ : ∃ x, gM = x + 1 := ⟨gM - 1, by omega⟩
      obtain ⟨gc, hgc⟩ : ∃ x, g = x + 1 := ⟨g - 1, by omega⟩
      have hM : f_Mo_sum_L4 recM gM (nI k) (nI h) (nI q) op' (nI (ld' + 1)) tape (upd act' (130 + ld') (nI m)) (upd wi' (130 + ld') (nI 0)) = some (nI h, nI q, op', nI (ld' + 1), upd act' (130 + ld') (nI m), upd wi' (130 + ld') (nI 0)) := by
        rw [hgm, f_Mo_sum_L4]
        simp (disch := omega) only [n_lt, n_le, n_eq, n_cl, n_sub, nI_add, pk_mul, n_subL, n_Lsub, n_neN, n_Nne, n_leN, n_ltN, n_Nlt, n_Nle, le_T, le_F, lt_T, lt_F, eq_T, eq_F, true_or, or_true, false_or, or_false, true_and, and_true, false_and, and_false, and_self, or_self, not_true_eq_false, not_false_eq_true, decide_eq_true_eq, decide_true, decide_false, Bool.false_eq_true, Bool.true_eq_false, eq_self, ↓reduceIte, Option.bind_some, mo_in, lit_0, lit_1, lit_2, lit_3, lit_4, lit_5, lit_6, lit_7, lit_8, lit_9, lit_10, lit_11, lit_12, lit_13, lit_14, lit_15, lit_16, lit_20, lit_22, lit_24, lit_28, lit_30, lit_31, lit_32, lit_39, lit_40, lit_42, lit_48, lit_50, lit_57, lit_60, lit_61, lit_62, lit_63, lit_64, lit_100, lit_120, lit_121, lit_122, lit_128, lit_130, lit_255, lit_256, lit_360, lit_1024, lit_2147483647, m1_pred, Nat.add_sub_cancel, lit_124, lit_38, lit_37, lit_33, lit_126, lit_59, lit_112, lit_108, lit_110, lit_104, lit_47, lit_43, lit_45, lit_41, lit_123, lit_49, lit_58, lit_68]
      have hfr : ∀ j, j < 130 + ld → upd act' (130 + ld') (nI m) j = act0 j ∧ upd wi' (130 + ld') (nI 0) j = wi0 j := fun j hj => by
        by_cases c5 : j = 130 + ld'
        · exfalso; omega
        · rw [pk_un c5, pk_un c5, (b8 j (by omega)).1, (b8 j (by omega)).2]; exact hf3 j hj
      cases r with
      | false =>
        refine ⟨q, h, ld' + 1, false, cl', op', code', _, _, b1, b2, by omega, by omega, ?_, fun z => (by cases z), ?_, hfr⟩
        · rw [hopc _ b5]; rfl
        · rw [hopen _ b7]
          simp only [Option.bind_some, mo_add (show ld' < 130 by omega), hbyte]
          exact hM
      | true =>
        obtain ⟨d1, d2, d3⟩ := b6 rfl
        refine ⟨q, h, ld' + 1, true, ga, op', gb, _, _, b1, b2, by omega, by omega, ?_, b6, ?_, hfr⟩
        · rw [hopc _ b5]
          simp only [Option.bind_some, if_true, gw]
          rw [hgc]
          exact stop_dig hk hc (by omega) d1 d2 d3 _ _ _ _ _
        · rw [hopen _ b7]
          simp only [Option.bind_some, mo_add (show ld' < 130 by omega), hbyte]
          exact hM
theorem lv_sum {k : Nat} {letters tape : Nat → Int32} {c : Nat → Nat} (hk : k ≤ 120) (hc : ∀ j, j < k → c j < 256 ∧ letters j = nI (c j) ∧ tape j = (nI (c j)).toInt8.toInt32) {F o : Nat} {recM : Int32 → Int32 → Int32 → Int32 → Int32 → (Nat → Int32) → (Nat → Int32) → (Nat → Int32) → Option (Int32 × Int32 × Int32 × Int32 × (Nat → Int32) × (Nat → Int32))} (sub : PO k c o (fun cl at_ code => f_Ta_readLevel F (nI 4) (nI o) (nI k) cl at_ letters code) (fun h f op la act wi => f_Mo_product recM (nI k) h f op la tape act wi)) : PO k c o (fun cl at_ code => f_Ta_readLevel (F + 1) (nI 3) (nI o) (nI k) cl at_ letters code) (fun h f op la act wi => f_Mo_sum recM (nI k) h f op la tape act wi) := by
  intro i cl ld code act wi hi hcl hld
  have hopc : ∀ x : Option (Bool × Int32 × Int32 × (Nat → Int32)), f_Ta_readLevel F (nI (3 + 1)) (nI o) (nI k) (nI cl) (nI i) letters code = x → f_Ta_readLevel (F + 1) (nI 3) (nI o) (nI k) (nI cl) (nI i) letters code = x.bind fun (r15, u16, u17, u18) => if r15 = true then f_Ta_readLevel_L39 (f_Ta_readLevel F) 3000 (nI 3) (nI o) (nI 120) (nI 0) (nI k) u16 u17 letters u18 else some (false, u16, u17, u18) := by
    intro x hx
    rw [f_Ta_readLevel, f_Ta_readLevel_body, ← hx]
    simp (disch := omega) only [n_lt, n_le, n_eq, n_cl, n_sub, nI_add, pk_mul, n_subL, n_Lsub, n_neN, n_Nne, n_leN, n_ltN, n_Nlt, n_Nle, le_T, le_F, lt_T, lt_F, eq_T, eq_F, true_or, or_true, false_or, or_false, true_and, and_true, false_and, and_false, and_self, or_self, not_true_eq_false, not_false_eq_true, decide_eq_true_eq, decide_true, decide_false, Bool.false_eq_true, Bool.true_eq_false, eq_self, ↓reduceIte, Option.bind_some, mo_in, lit_0, lit_1, lit_2, lit_3, lit_4, lit_5, lit_6, lit_7, lit_8, lit_9, lit_10, lit_11, lit_12, lit_13, lit_14, lit_15, lit_16, lit_20, lit_22, lit_24, lit_28, lit_30, lit_31, lit_32, lit_39, lit_40, lit_42, lit_48, lit_50, lit_57, lit_60, lit_61, lit_62, lit_63, lit_64, lit_100, lit_120, lit_121, lit_122, lit_128, lit_130, lit_255, lit_256, lit_360, lit_1024, lit_2147483647, m1_pred, Nat.add_sub_cancel, lit_124, lit_38, lit_37, lit_33, lit_126, lit_59, lit_112, lit_108, lit_110, lit_104, lit_47, lit_43, lit_45, lit_41, lit_123, lit_49, lit_58, lit_68, f_Ta_readLevel_L35]
  have hopm : ∀ x : Option (Int32 × Int32 × Int32 × Int32 × (Nat → Int32) × (Nat → Int32)), f_Mo_product recM (nI k) (nI i) (-nI 1) (nI o) (nI ld) tape act wi = x → f_Mo_sum recM (nI k) (nI i) (-nI 1) (nI o) (nI ld) tape act wi = x.bind fun (u20, u21, u22, u23, u24, u25) => f_Mo_sum_L4 recM 3000 (nI k) u20 u21 u22 u23 tape u24 u25 := by
    intro x hx
    rw [f_Mo_sum, hx]
  rcases sub i cl ld code act wi hi hcl hld with ⟨e2, i2, ok1, ok2, ok3, ok4, code', act', wi', g1, g2, g3, g4, g5, g6⟩ | ⟨q, h, ld', r, cl', op', code', act', wi', b1, b2, b3, b4, b5, b6, b7, b8⟩
  · have hlo := lo_sum hk hc sub 200 i2 i cl ld 0 3000 3000 e2 code' act' wi' code act wi (by omega) ok2 ok3 ok4 hcl hld (by omega) (by omega) (by omega) ok1 g3 g4 g5 g6
    show (∃ e i', okS k i o cl ld code act wi e i' (f_Ta_readLevel (F + 1) (nI 3) (nI o) (nI k) (nI cl) (nI i) letters code) (f_Mo_sum recM (nI k) (nI i) (-nI 1) (nI o) (nI ld) tape act wi)) ∨ okF k c i ld act wi (f_Ta_readLevel (F + 1) (nI 3) (nI o) (nI k) (nI cl) (nI i) letters code) (f_Mo_sum recM (nI k) (nI i) (-nI 1) (nI o) (nI ld) tape act wi)
    rw [hopc _ g1, hopm _ g2]
    exact hlo
  · have hM : f_Mo_sum_L4 recM 3000 (nI k) (nI h) (nI q) op' (nI ld') tape act' wi' = some (nI h, nI q, op', nI ld', act', wi') := by
      rw [show (3000 : Nat) = 2999 + 1 from rfl, f_Mo_sum_L4]
      simp (disch := omega) only [n_lt, n_le, n_eq, n_cl, n_sub, nI_add, pk_mul, n_subL, n_Lsub, n_neN, n_Nne, n_leN, n_ltN, n_Nlt, n_Nle, le_T, le_F, lt_T, lt_F, eq_T, eq_F, true_or, or_true, false_or, or_false, true_and, and_true, false_and, and_false, and_self, or_self, not_true_eq_false, not_false_eq_true, decide_eq_true_eq, decide_true, decide_false, Bool.false_eq_true, Bool.true_eq_false, eq_self, ↓reduceIte, Option.bind_some, mo_in, lit_0, lit_1, lit_2, lit_3, lit_4, lit_5, lit_6, lit_7, lit_8, lit_9, lit_10, lit_11, lit_12, lit_13, lit_14, lit_15, lit_16, lit_20, lit_22, lit_24, lit_28, lit_30, lit_31, lit_32, lit_39, lit_40, lit_42, lit_48, lit_50, lit_57, lit_60, lit_61, lit_62, lit_63, lit_64, lit_100, lit_120, lit_121, lit_122, lit_128, lit_130, lit_255, lit_256, lit_360, lit_1024, lit_2147483647, m1_pred, Nat.add_sub_cancel, lit_124, lit_38, lit_37, lit_33, lit_126, lit_59, lit_112, lit_108, lit_110, lit_104, lit_47, lit_43, lit_45, lit_41, lit_123, lit_49, lit_58, lit_68]
    refine Or.inr ⟨q, h, ld', r, cl', op', code', act', wi', b1, b2, b3, b4, ?_, b6, (hopm _ b7).trans hM, b8⟩
    cases r with
    | false => exact (hopc _ b5).trans rfl
    | true =>
      obtain ⟨d1, d2, d3⟩ := b6 rfl
      refine (hopc _ b5).trans ?_
      simp only [Option.bind_some, if_true]
      exact stop_dig (fu := 2999) hk hc (by omega) d1 d2 d3 _ _ _ _ _
theorem lv_compared {k : Nat} {letters tape : Nat → Int32} {c : Nat → Nat} (hk : k ≤ 120) (hc : ∀ j, j < k → c j < 256 ∧ letters j = nI (c j) ∧ tape j = (nI (c j)).toInt8.toInt32) {F o : Nat} {recM : Int32 → Int32 → Int32 → Int32 → Int32 → (Nat → Int32) → (Nat → Int32) → (Nat → Int32) → Option (Int32 × Int32 × Int32 × Int32 × (Nat → Int32) × (Nat → Int32))} (sub : PO k c o (fun cl at_ code => f_Ta_readLevel F (nI 3) (nI o) (nI k) cl at_ letters code) (fun h f op la act wi => f_Mo_sum recM (nI k) h f op la tape act wi)) : PO k c o (fun cl at_ code => f_Ta_readLevel (F + 1) (nI 2) (nI o) (nI k) cl at_ letters code) (fun h f op la act wi => f_Mo_compared recM (nI k) h f op la tape act wi) := by
  intro i cl ld code act wi hi hcl hld
  have hopc : ∀ x : Option (Bool × Int32 × Int32 × (Nat → Int32)), f_Ta_readLevel F (nI (2 + 1)) (nI o) (nI k) (nI cl) (nI i) letters code = x → f_Ta_readLevel (F + 1) (nI 2) (nI o) (nI k) (nI cl) (nI i) letters code = x.bind fun (r15, u16, u17, u18) => if r15 = true then f_Ta_readLevel_L39 (f_Ta_readLevel F) 3000 (nI 2) (nI o) (nI 1) (nI 0) (nI k) u16 u17 letters u18 else some (false, u16, u17, u18) := by
    intro x hx
    rw [f_Ta_readLevel, f_Ta_readLevel_body, ← hx]
    simp (disch := omega) only [n_lt, n_le, n_eq, n_cl, n_sub, nI_add, pk_mul, n_subL, n_Lsub, n_neN, n_Nne, n_leN, n_ltN, n_Nlt, n_Nle, le_T, le_F, lt_T, lt_F, eq_T, eq_F, true_or, or_true, false_or, or_false, true_and, and_true, false_and, and_false, and_self, or_self, not_true_eq_false, not_false_eq_true, decide_eq_true_eq, decide_true, decide_false, Bool.false_eq_true, Bool.true_eq_false, eq_self, ↓reduceIte, Option.bind_some, mo_in, lit_0, lit_1, lit_2, lit_3, lit_4, lit_5, lit_6, lit_7, lit_8, lit_9, lit_10, lit_11, lit_12, lit_13, lit_14, lit_15, lit_16, lit_20, lit_22, lit_24, lit_28, lit_30, lit_31, lit_32, lit_39, lit_40, lit_42, lit_48, lit_50, lit_57, lit_60, lit_61, lit_62, lit_63, lit_64, lit_100, lit_120, lit_121, lit_122, lit_128, lit_130, lit_255, lit_256, lit_360, lit_1024, lit_2147483647, m1_pred, Nat.add_sub_cancel, lit_124, lit_38, lit_37, lit_33, lit_126, lit_59, lit_112, lit_108, lit_110, lit_104, lit_47, lit_43, lit_45, lit_41, lit_123, lit_49, lit_58, lit_68, f_Ta_readLevel_L35]
  show (∃ e i', okS k i o cl ld code act wi e i' (f_Ta_readLevel (F + 1) (nI 2) (nI o) (nI k) (nI cl) (nI i) letters code) (f_Mo_compared recM (nI k) (nI i) (-nI 1) (nI o) (nI ld) tape act wi)) ∨ okF k c i ld act wi (f_Ta_readLevel (F + 1) (nI 2) (nI o) (nI k) (nI cl) (nI i) letters code) (f_Mo_compared recM (nI k) (nI i) (-nI 1) (nI o) (nI ld) tape act wi)
  rcases sub i cl ld code act wi hi hcl hld with ⟨e, i1, ok1, ok2, ok3, ok4, code', act', wi', g1, g2, g3, g4, g5, g6⟩ | ⟨q, h, ld', r, cl', op', code', act', wi', b1, b2, b3, b4, b5, b6, b7, b8⟩
  rotate_left
  · obtain ⟨lc, lm, s1, s2, s3⟩ := see hk hc b2
    refine Or.inr ⟨q, h, ld', r, cl', op', code', act', wi', b1, b2, b3, b4, ?_, b6, ?_, b8⟩
    · cases r with
      | false => exact (hopc _ b5).trans rfl
      | true =>
        obtain ⟨d1, d2, d3⟩ := b6 rfl
        refine (hopc _ b5).trans ?_
        simp only [Option.bind_some, if_true]
        exact stop_dig (fu := 2999) hk hc (by omega) d1 d2 d3 _ _ _ _ _
    · have b7' : f_Mo_sum recM (nI k) (nI i) (-nI 1) (nI o) (nI ld) tape act wi = some (nI h, nI q, op', nI ld', act', wi') := b7
      rw [f_Mo_compared, b7']
      simp (disch := omega) only [n_lt, n_le, n_eq, n_cl, n_sub, nI_add, pk_mul, n_subL, n_Lsub, n_neN, n_Nne, n_leN, n_ltN, n_Nlt, n_Nle, le_T, le_F, lt_T, lt_F, eq_T, eq_F, true_or, or_true, false_or, or_false, true_and, and_true, false_and, and_false, and_self, or_self, not_true_eq_false, not_false_eq_true, decide_eq_true_eq, decide_true, decide_false, Bool.false_eq_true, Bool.true_eq_false, eq_self, ↓reduceIte, Option.bind_some, mo_in, lit_0, lit_1, lit_2, lit_3, lit_4, lit_5, lit_6, lit_7, lit_8, lit_9, lit_10, lit_11, lit_12, lit_13, lit_14, lit_15, lit_16, lit_20, lit_22, lit_24, lit_28, lit_30, lit_31, lit_32, lit_39, lit_40, lit_42, lit_48, lit_50, lit_57, lit_60, lit_61, lit_62, lit_63, lit_64, lit_100, lit_120, lit_121, lit_122, lit_128, lit_130, lit_255, lit_256, lit_360, lit_1024, lit_2147483647, m1_pred, Nat.add_sub_cancel, lit_124, lit_38, lit_37, lit_33, lit_126, lit_59, lit_112, lit_108, lit_110, lit_104, lit_47, lit_43, lit_45, lit_41, lit_123, lit_49, lit_58, lit_68, s2]
  have g2' : f_Mo_sum recM (nI k) (nI i) (-nI 1) (nI o) (nI ld) tape act wi = some (nI i1, -nI 1, nI o, nI (ld + e.length), act', wi') := g2
  obtain ⟨lc, lm, s1, s2, s3⟩ := see hk hc ok3
  have stay : f_Ta_readLevel_L39 (f_Ta_readLevel F) 3000 (nI 2) (nI o) (nI 1) (nI 0) (nI k) (nI (cl + e.length)) (nI i1) letters code' = some (true, nI (cl + e.length), nI i1, code') → f_Mo_compared recM (nI k) (nI i) (-nI 1) (nI o) (nI ld) tape act wi = some (nI i1, -nI 1, nI o, nI (ld + e.length), act', wi') → (∃ e i', okS k i o cl ld code act wi e i' (f_Ta_readLevel (F + 1) (nI 2) (nI o) (nI k) (nI cl) (nI i) letters code) (f_Mo_compared recM (nI k) (nI i) (-nI 1) (nI o) (nI ld) tape act wi)) ∨ okF k c i ld act wi (f_Ta_readLevel (F + 1) (nI 2) (nI o) (nI k) (nI cl) (nI i) letters code) (f_Mo_compared recM (nI k) (nI i) (-nI 1) (nI o) (nI ld) tape act wi) := fun z1 z2 => Or.inl ⟨e, i1, ok1, ok2, ok3, ok4, code', act', wi', (hopc _ g1).trans z1, z2, g3, g4, g5, g6⟩
  rcases s3 with ⟨m, hm128, hlt, hcm, rfl, rfl⟩ | ⟨o1, o2, _⟩
  rotate_left
  · refine stay ?_ ?_
    · rw [show (3000 : Nat) = 2999 + 1 from rfl, f_Ta_readLevel_L39]
      simp (disch := omega) only [n_lt, n_le, n_eq, n_cl, n_sub, nI_add, pk_mul, n_subL, n_Lsub, n_neN, n_Nne, n_leN, n_ltN, n_Nlt, n_Nle, le_T, le_F, lt_T, lt_F, eq_T, eq_F, true_or, or_true, false_or, or_false, true_and, and_true, false_and, and_false, and_self, or_self, not_true_eq_false, not_false_eq_true, decide_eq_true_eq, decide_true, decide_false, Bool.false_eq_true, Bool.true_eq_false, eq_self, ↓reduceIte, Option.bind_some, mo_in, lit_0, lit_1, lit_2, lit_3, lit_4, lit_5, lit_6, lit_7, lit_8, lit_9, lit_10, lit_11, lit_12, lit_13, lit_14, lit_15, lit_16, lit_20, lit_22, lit_24, lit_28, lit_30, lit_31, lit_32, lit_39, lit_40, lit_42, lit_48, lit_50, lit_57, lit_60, lit_61, lit_62, lit_63, lit_64, lit_100, lit_120, lit_121, lit_122, lit_128, lit_130, lit_255, lit_256, lit_360, lit_1024, lit_2147483647, m1_pred, Nat.add_sub_cancel, lit_124, lit_38, lit_37, lit_33, lit_126, lit_59, lit_112, lit_108, lit_110, lit_104, lit_47, lit_43, lit_45, lit_41, lit_123, lit_49, lit_58, lit_68, s1, lvl_oth o1]
    · rw [f_Mo_compared, g2']
      simp (disch := omega) only [n_lt, n_le, n_eq, n_cl, n_sub, nI_add, pk_mul, n_subL, n_Lsub, n_neN, n_Nne, n_leN, n_ltN, n_Nlt, n_Nle, le_T, le_F, lt_T, lt_F, eq_T, eq_F, true_or, or_true, false_or, or_false, true_and, and_true, false_and, and_false, and_self, or_self, not_true_eq_false, not_false_eq_true, decide_eq_true_eq, decide_true, decide_false, Bool.false_eq_true, Bool.true_eq_false, eq_self, ↓reduceIte, Option.bind_some, mo_in, lit_0, lit_1, lit_2, lit_3, lit_4, lit_5, lit_6, lit_7, lit_8, lit_9, lit_10, lit_11, lit_12, lit_13, lit_14, lit_15, lit_16, lit_20, lit_22, lit_24, lit_28, lit_30, lit_31, lit_32, lit_39, lit_40, lit_42, lit_48, lit_50, lit_57, lit_60, lit_61, lit_62, lit_63, lit_64, lit_100, lit_120, lit_121, lit_122, lit_128, lit_130, lit_255, lit_256, lit_360, lit_1024, lit_2147483647, m1_pred, Nat.add_sub_cancel, lit_124, lit_38, lit_37, lit_33, lit_126, lit_59, lit_112, lit_108, lit_110, lit_104, lit_47, lit_43, lit_45, lit_41, lit_123, lit_49, lit_58, lit_68, s2, o2.1 60 (by omega), o2.1 61 (by omega), o2.1 62 (by omega)]
  have hlv := lvl_of m hm128
  by_cases hop : m = 60 ∨ m = 61 ∨ m = 62
  rotate_left
  · have hne : (lvl m = nI 2) = False := eq_false (fun z => hop ((lvl_2 m hm128).mp z))
    refine stay ?_ ?_
    · rw [show (3000 : Nat) = 2999 + 1 from rfl, f_Ta_readLevel_L39]
      simp (disch := omega) only [n_lt, n_le, n_eq, n_cl, n_sub, nI_add, pk_mul, n_subL, n_Lsub, n_neN, n_Nne, n_leN, n_ltN, n_Nlt, n_Nle, le_T, le_F, lt_T, lt_F, eq_T, eq_F, true_or, or_true, false_or, or_false, true_and, and_true, false_and, and_false, and_self, or_self, not_true_eq_false, not_false_eq_true, decide_eq_true_eq, decide_true, decide_false, Bool.false_eq_true, Bool.true_eq_false, eq_self, ↓reduceIte, Option.bind_some, mo_in, lit_0, lit_1, lit_2, lit_3, lit_4, lit_5, lit_6, lit_7, lit_8, lit_9, lit_10, lit_11, lit_12, lit_13, lit_14, lit_15, lit_16, lit_20, lit_22, lit_24, lit_28, lit_30, lit_31, lit_32, lit_39, lit_40, lit_42, lit_48, lit_50, lit_57, lit_60, lit_61, lit_62, lit_63, lit_64, lit_100, lit_120, lit_121, lit_122, lit_128, lit_130, lit_255, lit_256, lit_360, lit_1024, lit_2147483647, m1_pred, Nat.add_sub_cancel, lit_124, lit_38, lit_37, lit_33, lit_126, lit_59, lit_112, lit_108, lit_110, lit_104, lit_47, lit_43, lit_45, lit_41, lit_123, lit_49, lit_58, lit_68, s1, hlv, hne]
    · rw [f_Mo_compared, g2']
      simp (disch := omega) only [n_lt, n_le, n_eq, n_cl, n_sub, nI_add, pk_mul, n_subL, n_Lsub, n_neN, n_Nne, n_leN, n_ltN, n_Nlt, n_Nle, le_T, le_F, lt_T, lt_F, eq_T, eq_F, true_or, or_true, false_or, or_false, true_and, and_true, false_and, and_false, and_self, or_self, not_true_eq_false, not_false_eq_true, decide_eq_true_eq, decide_true, decide_false, Bool.false_eq_true, Bool.true_eq_false, eq_self, ↓reduceIte, Option.bind_some, mo_in, lit_0, lit_1, lit_2, lit_3, lit_4, lit_5, lit_6, lit_7, lit_8, lit_9, lit_10, lit_11, lit_12, lit_13, lit_14, lit_15, lit_16, lit_20, lit_22, lit_24, lit_28, lit_30, lit_31, lit_32, lit_39, lit_40, lit_42, lit_48, lit_50, lit_57, lit_60, lit_61, lit_62, lit_63, lit_64, lit_100, lit_120, lit_121, lit_122, lit_128, lit_130, lit_255, lit_256, lit_360, lit_1024, lit_2147483647, m1_pred, Nat.add_sub_cancel, lit_124, lit_38, lit_37, lit_33, lit_126, lit_59, lit_112, lit_108, lit_110, lit_104, lit_47, lit_43, lit_45, lit_41, lit_123, lit_49, lit_58, lit_68, s2]
  have heq : (lvl m = nI 2) = True := eq_true ((lvl_2 m hm128).mpr hop)
  obtain ⟨hbin, hal⟩ := op_2 m hm128 hop
  have hbyte := fa_byte_small hm128
  have hopen : ∀ x : Option (Int32 × Int32 × Int32 × Int32 × (Nat → Int32) × (Nat → Int32)), (f_Mo_sum recM (nI k) (nI (i1 + 1)) (-nI 1) (nI o) (nI (ld + e.length)) tape act' wi') = x → f_Mo_compared recM (nI k) (nI i) (-nI 1) (nI o) (nI ld) tape act wi = x.bind fun (u9, u10, u11, u12, u13, u14) => (f_Mo_addStep (nI m) (nI 0) u12 u13 u14).bind fun (u16, u17, u18) => some (u9, u10, u11, u16, u17, u18) := by
    intro x hx
    rw [f_Mo_compared, g2']
    rcases hop with rfl | rfl | rfl
    · simp (disch := omega) only [n_lt, n_le, n_eq, n_cl, n_sub, nI_add, pk_mul, n_subL, n_Lsub, n_neN, n_Nne, n_leN, n_ltN, n_Nlt, n_Nle, le_T, le_F, lt_T, lt_F, eq_T, eq_F, true_or, or_true, false_or, or_false, true_and, and_true, false_and, and_false, and_self, or_self, not_true_eq_false, not_false_eq_true, decide_eq_true_eq, decide_true, decide_false, Bool.false_eq_true, Bool.true_eq_false, eq_self, ↓reduceIte, Option.bind_some, mo_in, lit_0, lit_1, lit_2, lit_3, lit_4, lit_5, lit_6, lit_7, lit_8, lit_9, lit_10, lit_11, lit_12, lit_13, lit_14, lit_15, lit_16, lit_20, lit_22, lit_24, lit_28, lit_30, lit_31, lit_32, lit_39, lit_40, lit_42, lit_48, lit_50, lit_57, lit_60, lit_61, lit_62, lit_63, lit_64, lit_100, lit_120, lit_121, lit_122, lit_128, lit_130, lit_255, lit_256, lit_360, lit_1024, lit_2147483647, m1_pred, Nat.add_sub_cancel, lit_124, lit_38, lit_37, lit_33, lit_126, lit_59, lit_112, lit_108, lit_110, lit_104, lit_47, lit_43, lit_45, lit_41, lit_123, lit_49, lit_58, lit_68, s2, hx, f_Mo_compared_L35]
    · simp (disch := omega) only [n_lt, n_le, n_eq, n_cl, n_sub, nI_add, pk_mul, n_subL, n_Lsub, n_neN, n_Nne, n_leN, n_ltN, n_Nlt, n_Nle, le_T, le_F, lt_T, lt_F, eq_T, eq_F, true_or, or_true, false_or, or_false, true_and, and_true, false_and, and_false, and_self, or_self, not_true_eq_false, not_false_eq_true, decide_eq_true_eq, decide_true, decide_false, Bool.false_eq_true, Bool.true_eq_false, eq_self, ↓reduceIte, Option.bind_some, mo_in, lit_0, lit_1, lit_2, lit_3, lit_4, lit_5, lit_6, lit_7, lit_8, lit_9, lit_10, lit_11, lit_12, lit_13, lit_14, lit_15, lit_16, lit_20, lit_22, lit_24, lit_28, lit_30, lit_31, lit_32, lit_39, lit_40, lit_42, lit_48, lit_50, lit_57, lit_60, lit_61, lit_62, lit_63, lit_64, lit_100, lit_120, lit_121, lit_122, lit_128, lit_130, lit_255, lit_256, lit_360, lit_1024, lit_2147483647, m1_pred, Nat.add_sub_cancel, lit_124, lit_38, lit_37, lit_33, lit_126, lit_59, lit_112, lit_108, lit_110, lit_104, lit_47, lit_43, lit_45, lit_41, lit_123, lit_49, lit_58, lit_68, s2, hx, f_Mo_compared_L35]
    · simp (disch := omega) only [n_lt, n_le, n_eq, n_cl, n_sub, nI_add, pk_mul, n_subL, n_Lsub, n_neN, n_Nne, n_leN, n_ltN, n_Nlt, n_Nle, le_T, le_F, lt_T, lt_F, eq_T, eq_F, true_or, or_true, false_or, or_false, true_and, and_true, false_and, and_false, and_self, or_self, not_true_eq_false, not_false_eq_true, decide_eq_true_eq, decide_true, decide_false, Bool.false_eq_true, Bool.true_eq_false, eq_self, ↓reduceIte, Option.bind_some, mo_in, lit_0, lit_1, lit_2, lit_3, lit_4, lit_5, lit_6, lit_7, lit_8, lit_9, lit_10, lit_11, lit_12, lit_13, lit_14, lit_15, lit_16, lit_20, lit_22, lit_24, lit_28, lit_30, lit_31, lit_32, lit_39, lit_40, lit_42, lit_48, lit_50, lit_57, lit_60, lit_61, lit_62, lit_63, lit_64, lit_100, lit_120, lit_121, lit_122, lit_128, lit_130, lit_255, lit_256, lit_360, lit_1024, lit_2147483647, m1_pred, Nat.add_sub_cancel, lit_124, lit_38, lit_37, lit_33, lit_126, lit_59, lit_112, lit_108, lit_110, lit_104, lit_47, lit_43, lit_45, lit_41, lit_123, lit_49, lit_58, lit_68, s2, hx, f_Mo_compared_L35]
  have hstop : ∀ (x y : Int32) (cd : Nat → Int32), f_Ta_readLevel_L39 (f_Ta_readLevel F) 2999 (nI 2) (nI o) (nI 1) (nI 1) (nI k) x y letters cd = some (true, x, y, cd) := by
    intro x y cd
    rw [show (2999 : Nat) = 2998 + 1 from rfl, f_Ta_readLevel_L39]
    simp (disch := omega) only [n_lt, n_le, n_eq, n_cl, n_sub, nI_add, pk_mul, n_subL, n_Lsub, n_neN, n_Nne, n_leN, n_ltN, n_Nlt, n_Nle, le_T, le_F, lt_T, lt_F, eq_T, eq_F, true_or, or_true, false_or, or_false, true_and, and_true, false_and, and_false, and_self, or_self, not_true_eq_false, not_false_eq_true, decide_eq_true_eq, decide_true, decide_false, Bool.false_eq_true, Bool.true_eq_false, eq_self, ↓reduceIte, Option.bind_some, mo_in, lit_0, lit_1, lit_2, lit_3, lit_4, lit_5, lit_6, lit_7, lit_8, lit_9, lit_10, lit_11, lit_12, lit_13, lit_14, lit_15, lit_16, lit_20, lit_22, lit_24, lit_28, lit_30, lit_31, lit_32, lit_39, lit_40, lit_42, lit_48, lit_50, lit_57, lit_60, lit_61, lit_62, lit_63, lit_64, lit_100, lit_120, lit_121, lit_122, lit_128, lit_130, lit_255, lit_256, lit_360, lit_1024, lit_2147483647, m1_pred, Nat.add_sub_cancel, lit_124, lit_38, lit_37, lit_33, lit_126, lit_59, lit_112, lit_108, lit_110, lit_104, lit_47, lit_43, lit_45, lit_41, lit_123, lit_49, lit_58, lit_68]
  have hc2 : ∀ x : Option (Bool × Int32 × Int32 × (Nat → Int32)), f_Ta_readLevel F (nI (2 + 1)) (nI o) (nI k) (nI (cl + e.length)) (nI (i1 + 1)) letters code' = x → f_Ta_readLevel (F + 1) (nI 2) (nI o) (nI k) (nI cl) (nI i) letters code = x.bind fun (r7, u8, u9, u10) => if r7 = true then (f_Ta_write (-nI m) u8 u10).bind fun (u12, u13) => some (true, u12, u9, u13) else some (false, u8, u9, u10) := by
    intro x hx
    rw [hopc _ g1]
    show f_Ta_readLevel_L39 (f_Ta_readLevel F) 3000 (nI 2) (nI o) (nI 1) (nI 0) (nI k) (nI (cl + e.length)) (nI i1) letters code' = _
    rw [show (3000 : Nat) = 2999 + 1 from rfl, f_Ta_readLevel_L39, ← hx]
    simp (disch := omega) only [n_lt, n_le, n_eq, n_cl, n_sub, nI_add, pk_mul, n_subL, n_Lsub, n_neN, n_Nne, n_leN, n_ltN, n_Nlt, n_Nle, le_T, le_F, lt_T, lt_F, eq_T, eq_F, true_or, or_true, false_or, or_false, true_and, and_true, false_and, and_false, and_self, or_self, not_true_eq_false, not_false_eq_true, decide_eq_true_eq, decide_true, decide_false, Bool.false_eq_true, Bool.true_eq_false, eq_self, ↓reduceIte, Option.bind_some, mo_in, lit_0, lit_1, lit_2, lit_3, lit_4, lit_5, lit_6, lit_7, lit_8, lit_9, lit_10, lit_11, lit_12, lit_13, lit_14, lit_15, lit_16, lit_20, lit_22, lit_24, lit_28, lit_30, lit_31, lit_32, lit_39, lit_40, lit_42, lit_48, lit_50, lit_57, lit_60, lit_61, lit_62, lit_63, lit_64, lit_100, lit_120, lit_121, lit_122, lit_128, lit_130, lit_255, lit_256, lit_360, lit_1024, lit_2147483647, m1_pred, Nat.add_sub_cancel, lit_124, lit_38, lit_37, lit_33, lit_126, lit_59, lit_112, lit_108, lit_110, lit_104, lit_47, lit_43, lit_45, lit_41, lit_123, lit_49, lit_58, lit_68, s1, hlv, heq, hstop]
  rcases sub (i1 + 1) (cl + e.length) (ld + e.length) code' act' wi' (by omega) (by omega) (by omega) with ⟨e2, i2, pk1, pk2, pk3, pk4, code2, act2, wi2, k1, k2, k3, k4, k5, k6⟩ | ⟨q, h, ld', r, cl', op', code2, act2, wi2, b1, b2, b3, b4, b5, b6, b7, b8⟩
  · have hlen : (e ++ e2 ++ [-nI m]).length = e.length + e2.length + 1 := by simp; omega
    have hlen2 : (e ++ e2).length = e.length + e2.length := by simp
    have c1 := ha_snoc (s := -nI m) (ha_app g4 k4 k3)
    have c2 := hm_snoc (s := -nI m) (hm_app g6 (by rw [show 130 + ld + e.length = 130 + (ld + e.length) by omega]; exact k6) (fun j hj => k5 j (by omega))) hal
    rw [hlen2, show cl + (e.length + e2.length) = cl + e.length + e2.length by omega] at c1
    rw [hlen2, show 130 + ld + (e.length + e2.length) = 130 + (ld + e.length + e2.length) by omega] at c2
    refine Or.inl ⟨e ++ e2 ++ [-nI m], i2, okE_bin ok1 pk1 hbin, by omega, pk3, by rw [hlen]; omega, _, _, _, ?_, ?_, fun j hj => by rw [pk_un (by omega), k3 j (by omega)]; exact g3 j hj, c1, fun j hj => by rw [pk_un (by omega), pk_un (by omega), (k5 j (by omega)).1, (k5 j (by omega)).2]; exact g5 j hj, c2⟩
    · rw [hc2 _ k1, hlen, show cl + (e.length + e2.length + 1) = cl + e.length + e2.length + 1 by omega]
      simp only [Option.bind_some, if_true, ta_write (show cl + e.length + e2.length < 256 by omega)]
    · rw [hopen _ k2, hlen, show ld + (e.length + e2.length + 1) = ld + e.length + e2.length + 1 by omega]
      simp only [Option.bind_some, mo_add (show ld + e.length + e2.length < 130 by omega), hbyte]
  · refine Or.inr ?_
    obtain ⟨ga, gb, gw⟩ := ta_write_any (-nI m) cl' code2
    have hfr : ∀ j, j < 130 + ld → upd act2 (130 + ld') (nI m) j = act j ∧ upd wi2 (130 + ld') (nI 0) j = wi j := fun j hj => by
      by_cases c5 : j = 130 + ld'
      · exfalso; omega
      · rw [pk_un c5, pk_un c5, (b8 j (by omega)).1, (b8 j (by omega)).2]; exact g5 j hj
    cases r with
    | false =>
      refine ⟨q, h, ld' + 1, false, cl', op', code2, _, _, b1, b2, by omega, by omega, ?_, fun z => (by cases z), ?_, hfr⟩
      · rw [hc2 _ b5]; rfl
      · rw [hopen _ b7]
        simp only [Option.bind_some, mo_add (show ld' < 130 by omega), hbyte]
    | true =>
      refine ⟨q, h, ld' + 1, true, ga, op', gb, _, _, b1, b2, by omega, by omega, ?_, b6, ?_, hfr⟩
      · rw [hc2 _ b5]
        simp only [Option.bind_some, if_true, gw]
      · rw [hopen _ b7]
        simp only [Option.bind_some, mo_add (show ld' < 130 by omega), hbyte]
theorem lo_both {k : Nat} {letters tape : Nat → Int32} {c : Nat → Nat} (hk : k ≤ 120) (hc : ∀ j, j < k → c j < 256 ∧ letters j = nI (c j) ∧ tape j = (nI (c j)).toInt8.toInt32) {F o : Nat} {recM : Int32 → Int32 → Int32 → Int32 → Int32 → (Nat → Int32) → (Nat → Int32) → (Nat → Int32) → Option (Int32 × Int32 × Int32 × Int32 × (Nat → Int32) × (Nat → Int32))} (sub : PO k c o (fun cl at_ code => f_Ta_readLevel F (nI 2) (nI o) (nI k) cl at_ letters code) (fun h f op la act wi => f_Mo_compared recM (nI k) h f op la tape act wi)) : ∀ (w i i0 cl ld j fu fuM : Nat) (e : List Int32) (code act wi code0 act0 wi0 : Nat → Int32), k - i ≤ w → i0 < i → i ≤ k → i0 + e.length ≤ i → cl ≤ i0 → ld ≤ i0 → 2 * j ≤ i → w + 1 < fu → w + 1 < fuM → lw_okE e → (∀ j, j < cl → code j = code0 j) → ha code cl e → (∀ j, j < 130 + ld → act j = act0 j ∧ wi j = wi0 j) → hm act wi (130 + ld) e → (∃ e' i', okS k i0 o cl ld code0 act0 wi0 e' i' (f_Ta_readLevel_L39 (f_Ta_readLevel F) fu (nI 1) (nI o) (nI 120) (nI j) (nI k) (nI (cl + e.length)) (nI i) letters code) (f_Mo_both_L4 recM fuM (nI k) (nI i) (-nI 1) (nI o) (nI (ld + e.length)) tape act wi)) ∨ okF k c i0 ld act0 wi0 (f_Ta_readLevel_L39 (f_Ta_readLevel F) fu (nI 1) (nI o) (nI 120) (nI j) (nI k) (nI (cl + e.length)) (nI i) letters code) (f_Mo_both_L4 recM fuM (nI k) (nI i) (-nI 1) (nI o) (nI (ld + e.length)) tape act wi) := by
  intro w
  induction w with
  | zero =>
    intro i i0 cl ld j fu fuM e code act wi code0 act0 wi0 hw hi0 hik hel hcl hld hj hfu hfuM he hf1 hf2 hf3 hf4
    obtain ⟨g, rfl⟩ : ∃ g, fu = g + 1 := ⟨fu - 1, by omega⟩
    obtain ⟨gM, rfl⟩ : ∃ g, fuM = g + 1 := ⟨fuM - 1, by omega⟩
    obtain ⟨lc, lm, s1, s2, s3⟩ := see hk hc hik
    rcases s3 with ⟨m, hm128, hlt, hcm, rfl, rfl⟩ | ⟨o1, o2, _⟩
    · omega
    · refine Or.inl ⟨e, i, he, hi0, hik, hel, code, act, wi, ?_, ?_, hf1, hf2, hf3, hf4⟩
      · rw [f_Ta_readLevel_L39]
        simp (disch := omega) only [n_lt, n_le, n_eq, n_cl, n_sub, nI_add, pk_mul, n_subL, n_Lsub, n_neN, n_Nne, n_leN, n_ltN, n_Nlt, n_Nle, le_T, le_F, lt_T, lt_F, eq_T, eq_F, true_or, or_true, false_or, or_false, true_and, and_true, false_and, and_false, and_self, or_self, not_true_eq_false, not_false_eq_true, decide_eq_true_eq, decide_true, decide_false, Bool.false_eq_true, Bool.true_eq_false, eq_self, ↓reduceIte, Option.bind_some, mo_in, lit_0, lit_1, lit_2, lit_3, lit_4, lit_5, lit_6, lit_7, lit_8, lit_9, lit_10, lit_11, lit_12, lit_13, lit_14, lit_15, lit_16, lit_20, lit_22, lit_24, lit_28, lit_30, lit_31, lit_32, lit_39, lit_40, lit_42, lit_48, lit_50, lit_57, lit_60, lit_61, lit_62, lit_63, lit_64, lit_100, lit_120, lit_121, lit_122, lit_128, lit_130, lit_255, lit_256, lit_360, lit_1024, lit_2147483647, m1_pred, Nat.add_sub_cancel, lit_124, lit_38, lit_37, lit_33, lit_126, lit_59, lit_112, lit_108, lit_110, lit_104, lit_47, lit_43, lit_45, lit_41, lit_123, lit_49, lit_58, lit_68, s1, lvl_oth o1]
      · rw [f_Mo_both_L4]
        simp (disch := omega) only [n_lt, n_le, n_eq, n_cl, n_sub, nI_add, pk_mul, n_subL, n_Lsub, n_neN, n_Nne, n_leN, n_ltN, n_Nlt, n_Nle, le_T, le_F, lt_T, lt_F, eq_T, eq_F, true_or, or_true, false_or, or_false, true_and, and_true, false_and, and_false, and_self, or_self, not_true_eq_false, not_false_eq_true, decide_eq_true_eq, decide_true, decide_false, Bool.false_eq_true, Bool.true_eq_false, eq_self, ↓reduceIte, Option.bind_some, mo_in, lit_0, lit_1, lit_2, lit_3, lit_4, lit_5, lit_6, lit_7, lit_8, lit_9, lit_10, lit_11, lit_12, lit_13, lit_14, lit_15, lit_16, lit_20, lit_22, lit_24, lit_28, lit_30, lit_31, lit_32, lit_39, lit_40, lit_42, lit_48, lit_50, lit_57, lit_60, lit_61, lit_62, lit_63, lit_64, lit_100, lit_120, lit_121, lit_122, lit_128, lit_130, lit_255, lit_256, lit_360, lit_1024, lit_2147483647, m1_pred, Nat.add_sub_cancel, lit_124, lit_38, lit_37, lit_33, lit_126, lit_59, lit_112, lit_108, lit_110, lit_104, lit_47, lit_43, lit_45, lit_41, lit_123, lit_49, lit_58, lit_68, s2, o2.1 38 (by omega)]
  | succ w ih =>
    intro i i0 cl ld j fu fuM e code act wi code0 act0 wi0 hw hi0 hik hel hcl hld hj hfu hfuM he hf1 hf2 hf3 hf4
    obtain ⟨g, rfl⟩ : ∃ g, fu = g + 1 := ⟨fu - 1, by omega⟩
    obtain ⟨gM, rfl⟩ : ∃ g, fuM = g + 1 := ⟨fuM - 1, by omega⟩
    obtain ⟨lc, lm, s1, s2, s3⟩ := see hk hc hik
    rcases s3 with ⟨m, hm128, hlt, hcm, rfl, rfl⟩ | ⟨o1, o2, _⟩
    rotate_left
    · refine Or.inl ⟨e, i, he, hi0, hik, hel, code, act, wi, ?_, ?_, hf1, hf2, hf3, hf4⟩
      · rw [f_Ta_readLevel_L39]
        simp (disch := omega) only [n_lt, n_le, n_eq, n_cl, n_sub, nI_add, pk_mul, n_subL, n_Lsub, n_neN, n_Nne, n_leN, n_ltN, n_Nlt, n_Nle, le_T, le_F, lt_T, lt_F, eq_T, eq_F, true_or, or_true, false_or, or_false, true_and, and_true, false_and, and_false, and_self, or_self, not_true_eq_false, not_false_eq_true, decide_eq_true_eq, decide_true, decide_false, Bool.false_eq_true, Bool.true_eq_false, eq_self, ↓reduceIte, Option.bind_some, mo_in, lit_0, lit_1, lit_2, lit_3, lit_4, lit_5, lit_6, lit_7, lit_8, lit_9, lit_10, lit_11, lit_12, lit_13, lit_14, lit_15, lit_16, lit_20, lit_22, lit_24, lit_28, lit_30, lit_31, lit_32, lit_39, lit_40, lit_42, lit_48, lit_50, lit_57, lit_60, lit_61, lit_62, lit_63, lit_64, lit_100, lit_120, lit_121, lit_122, lit_128, lit_130, lit_255, lit_256, lit_360, lit_1024, lit_2147483647, m1_pred, Nat.add_sub_cancel, lit_124, lit_38, lit_37, lit_33, lit_126, lit_59, lit_112, lit_108, lit_110, lit_104, lit_47, lit_43, lit_45, lit_41, lit_123, lit_49, lit_58, lit_68, s1, lvl_oth o1]
      · rw [f_Mo_both_L4]
        simp (disch := omega) only [n_lt, n_le, n_eq, n_cl, n_sub, nI_add, pk_mul, n_subL, n_Lsub, n_neN, n_Nne, n_leN, n_ltN, n_Nlt, n_Nle, le_T, le_F, lt_T, lt_F, eq_T, eq_F, true_or, or_true, false_or, or_false, true_and, and_true, false_and, and_false, and_self, or_self, not_true_eq_false, not_false_eq_true, decide_eq_true_eq, decide_true, decide_false, Bool.false_eq_true, Bool.true_eq_false, eq_self, ↓reduceIte, Option.bind_some, mo_in, lit_0, lit_1, lit_2, lit_3, lit_4, lit_5, lit_6, lit_7, lit_8, lit_9, lit_10, lit_11, lit_12, lit_13, lit_14, lit_15, lit_16, lit_20, lit_22, lit_24, lit_28, lit_30, lit_31, lit_32, lit_39, lit_40, lit_42, lit_48, lit_50, lit_57, lit_60, lit_61, lit_62, lit_63, lit_64, lit_100, lit_120, lit_121, lit_122, lit_128, lit_130, lit_255, lit_256, lit_360, lit_1024, lit_2147483647, m1_pred, Nat.add_sub_cancel, lit_124, lit_38, lit_37, lit_33, lit_126, lit_59, lit_112, lit_108, lit_110, lit_104, lit_47, lit_43, lit_45, lit_41, lit_123, lit_49, lit_58, lit_68, s2, o2.1 38 (by omega)]
    have hlv := lvl_of m hm128
    by_cases hop : m = 38
    rotate_left
    · have hne : (lvl m = nI 1) = False := eq_false (fun z => hop ((lvl_1 m hm128).mp z))
      refine Or.inl ⟨e, i, he, hi0, hik, hel, code, act, wi, ?_, ?_, hf1, hf2, hf3, hf4⟩
      · rw [f_Ta_readLevel_L39]
        simp (disch := omega) only [n_lt, n_le, n_eq, n_cl, n_sub, nI_add, pk_mul, n_subL, n_Lsub, n_neN, n_Nne, n_leN, n_ltN, n_Nlt, n_Nle, le_T, le_F, lt_T, lt_F, eq_T, eq_F, true_or, or_true, false_or, or_false, true_and, and_true, false_and, and_false, and_self, or_self, not_true_eq_false, not_false_eq_true, decide_eq_true_eq, decide_true, decide_false, Bool.false_eq_true, Bool.true_eq_false, eq_self, ↓reduceIte, Option.bind_some, mo_in, lit_0, lit_1, lit_2, lit_3, lit_4, lit_5, lit_6, lit_7, lit_8, lit_9, lit_10, lit_11, lit_12, lit_13, lit_14, lit_15, lit_16, lit_20, lit_22, lit_24, lit_28, lit_30, lit_31, lit_32, lit_39, lit_40, lit_42, lit_48, lit_50, lit_57, lit_60, lit_61, lit_62, lit_63, lit_64, lit_100, lit_120, lit_121, lit_122, lit_128, lit_130, lit_255, lit_256, lit_360, lit_1024, lit_2147483647, m1_pred, Nat.add_sub_cancel, lit_124, lit_38, lit_37, lit_33, lit_126, lit_59, lit_112, lit_108, lit_110, lit_104, lit_47, lit_43, lit_45, lit_41, lit_123, lit_49, lit_58, lit_68, s1, hlv, hne]
      · rw [f_Mo_both_L4]
        simp (disch := omega) only [n_lt, n_le, n_eq, n_cl, n_sub, nI_add, pk_mul, n_subL, n_Lsub, n_neN, n_Nne, n_leN, n_ltN, n_Nlt, n_Nle, le_T, le_F, lt_T, lt_F, eq_T, eq_F, true_or, or_true, false_or, or_false, true_and, and_true, false_and, and_false, and_self, or_self, not_true_eq_false, not_false_eq_true, decide_eq_true_eq, decide_true, decide_false, Bool.false_eq_true, Bool.true_eq_false, eq_self, ↓reduceIte, Option.bind_some, mo_in, lit_0, lit_1, lit_2, lit_3, lit_4, lit_5, lit_6, lit_7, lit_8, lit_9, lit_10, lit_11, lit_12, lit_13, lit_14, lit_15, lit_16, lit_20, lit_22, lit_24, lit_28, lit_30, lit_31, lit_32, lit_39, lit_40, lit_42, lit_48, lit_50, lit_57, lit_60, lit_61, lit_62, lit_63, lit_64, lit_100, lit_120, lit_121, lit_122, lit_128, lit_130, lit_255, lit_256, lit_360, lit_1024, lit_2147483647, m1_pred, Nat.add_sub_cancel, lit_124, lit_38, lit_37, lit_33, lit_126, lit_59, lit_112, lit_108, lit_110, lit_104, lit_47, lit_43, lit_45, lit_41, lit_123, lit_49, lit_58, lit_68, s2]
    have heq : (lvl m = nI 1) = True := eq_true ((lvl_1 m hm128).mpr hop)
    obtain ⟨hbin, hal⟩ := op_1 m hm128 hop
    have hbyte := fa_byte_small hm128
    have hopen : ∀ x : Option (Int32 × Int32 × Int32 × Int32 × (Nat → Int32) × (Nat → Int32)), (f_Mo_compared recM (nI k) (nI (i + 1)) (-nI 1) (nI o) (nI (ld + e.length)) tape act wi) = x → f_Mo_both_L4 recM (gM + 1) (nI k) (nI i) (-nI 1) (nI o) (nI (ld + e.length)) tape act wi = x.bind fun (u9, u10, u11, u12, u13, u14) => (f_Mo_addStep (nI m) (nI 0) u12 u13 u14).bind fun (u16, u17, u18) => f_Mo_both_L4 recM gM (nI k) u9 u10 u11 u16 tape u17 u18 := by
      intro x hx
      rw [f_Mo_both_L4]
      subst hop
      simp (disch := omega) only [n_lt, n_le, n_eq, n_cl, n_sub, nI_add, pk_mul, n_subL, n_Lsub, n_neN, n_Nne, n_leN, n_ltN, n_Nlt, n_Nle, le_T, le_F, lt_T, lt_F, eq_T, eq_F, true_or, or_true, false_or, or_false, true_and, and_true, false_and, and_false, and_self, or_self, not_true_eq_false, not_false_eq_true, decide_eq_true_eq, decide_true, decide_false, Bool.false_eq_true, Bool.true_eq_false, eq_self, ↓reduceIte, Option.bind_some, mo_in, lit_0, lit_1, lit_2, lit_3, lit_4, lit_5, lit_6, lit_7, lit_8, lit_9, lit_10, lit_11, lit_12, lit_13, lit_14, lit_15, lit_16, lit_20, lit_22, lit_24, lit_28, lit_30, lit_31, lit_32, lit_39, lit_40, lit_42, lit_48, lit_50, lit_57, lit_60, lit_61, lit_62, lit_63, lit_64, lit_100, lit_120, lit_121, lit_122, lit_128, lit_130, lit_255, lit_256, lit_360, lit_1024, lit_2147483647, m1_pred, Nat.add_sub_cancel, lit_124, lit_38, lit_37, lit_33, lit_126, lit_59, lit_112, lit_108, lit_110, lit_104, lit_47, lit_43, lit_45, lit_41, lit_123, lit_49, lit_58, lit_68, s2, hx]
    have hopc : ∀ x : Option (Bool × Int32 × Int32 × (Nat → Int32)), f_Ta_readLevel F (nI (1 + 1)) (nI o) (nI k) (nI (cl + e.length)) (nI (i + 1)) letters code = x → f_Ta_readLevel_L39 (f_Ta_readLevel F) (g + 1) (nI 1) (nI o) (nI 120) (nI j) (nI k) (nI (cl + e.length)) (nI i) letters code = x.bind fun (r7, u8, u9, u10) => if r7 = true then (f_Ta_write (-nI m) u8 u10).bind fun (u12, u13) => f_Ta_readLevel_L39 (f_Ta_readLevel F) g (nI 1) (nI o) (nI 120) (nI (j + 1)) (nI k) u12 u9 letters u13 else some (false, u8, u9, u10) := by
      intro x hx
      rw [f_Ta_readLevel_L39, ← hx]
      simp (disch := omega) only [n_lt, n_le, n_eq, n_cl, n_sub, nI_add, pk_mul, n_subL, n_Lsub, n_neN, n_Nne, n_leN, n_ltN, n_Nlt, n_Nle, le_T, le_F, lt_T, lt_F, eq_T, eq_F, true_or, or_true, false_or, or_false, true_and, and_true, false_and, and_false, and_self, or_self, not_true_eq_false, not_false_eq_true, decide_eq_true_eq, decide_true, decide_false, Bool.false_eq_true, Bool.true_eq_false, eq_self, ↓reduceIte, Option.bind_some, mo_in, lit_0, lit_1, lit_2, lit_3, lit_4, lit_5, lit_6, lit_7, lit_8, lit_9, lit_10, lit_11, lit_12, lit_13, lit_14, lit_15, lit_16, lit_20, lit_22, lit_24, lit_28, lit_30, lit_31, lit_32, lit_39, lit_40, lit_42, lit_48, lit_50, lit_57, lit_60, lit_61, lit_62, lit_63, lit_64, lit_100, lit_120, lit_121, lit_122, lit_128, lit_130, lit_255, lit_256, lit_360, lit_1024, lit_2147483647, m1_pred, Nat.add_sub_cancel, lit_124, lit_38, lit_37, lit_33, lit_126, lit_59, lit_112, lit_108, lit_110, lit_104, lit_47, lit_43, lit_45, lit_41, lit_123, lit_49, lit_58, lit_68, s1, hlv, heq]
    rcases sub (i + 1) (cl + e.length) (ld + e.length) code act wi (by omega) (by omega) (by omega) with ⟨e2, i2, ok1, ok2, ok3, ok4, code', act', wi', g1, g2, g3, g4, g5, g6⟩ | ⟨q, h, ld', r, cl', op', code', act', wi', b1, b2, b3, b4, b5, b6, b7, b8⟩
    · have hlen : (e ++ e2 ++ [-nI m]).length = e.length + e2.length + 1 := by simp; omega
      have hlen2 : (e ++ e2).length = e.length + e2.length := by simp
      have c1 := ha_snoc (s := -nI m) (ha_app hf2 g4 g3)
      have c2 := hm_snoc (s := -nI m) (hm_app hf4 (by rw [show 130 + ld + e.length = 130 + (ld + e.length) by omega]; exact g6) (fun j hj => g5 j (by omega))) hal
      rw [hlen2, show cl + (e.length + e2.length) = cl + e.length + e2.length by omega] at c1
      rw [hlen2, show 130 + ld + (e.length + e2.length) = 130 + (ld + e.length + e2.length) by omega] at c2
      have hih := ih i2 i0 cl ld (j + 1) g gM (e ++ e2 ++ [-nI m]) _ _ _ code0 act0 wi0 (by omega) (by omega) ok3 (by rw [hlen]; omega) hcl hld (by omega) (by omega) (by omega) (okE_bin he ok1 hbin) (fun j hj => by rw [pk_un (by omega), g3 j (by omega)]; exact hf1 j hj) c1 (fun j hj => by rw [pk_un (by omega), pk_un (by omega), (g5 j (by omega)).1, (g5 j (by omega)).2]; exact hf3 j hj) c2
      rw [hlen, show cl + (e.length + e2.length + 1) = cl + e.length + e2.length + 1 by omega, show ld + (e.length + e2.length + 1) = ld + e.length + e2.length + 1 by omega] at hih
      rw [hopc _ g1, hopen _ g2]
      simp only [Option.bind_some, if_true, ta_write (show cl + e.length + e2.length < 256 by omega), mo_add (show ld + e.length + e2.length < 130 by omega), hbyte]
      exact hih
    · refine Or.inr ?_
      obtain ⟨ga, gb, gw⟩ := ta_write_any (-nI m) cl' code'
      obtain ⟨gm, hgm⟩ : ∃ x, gM = x + 1 := ⟨gM - 1, by omega⟩
      obtain ⟨gc, hgc⟩ : ∃ x, g = x + 1 := ⟨g - 1, by omega⟩
      have hM : f_Mo_both_L4 recM gM (nI k) (nI h) (nI q) op' (nI (ld' + 1)) tape (upd act' (130 + ld') (nI m)) (upd wi' (130 + ld') (nI 0)) = some (nI h, nI q, op', nI (ld' + 1), upd act' (130 + ld') (nI m), upd wi' (130 + ld') (nI 0)) := by
        rw [hgm, f_Mo_both_L4]
        simp (disch := omega) only [n_lt, n_le, n_eq, n_cl, n_sub, nI_add, pk_mul, n_subL, n_Lsub, n_neN, n_Nne, n_leN, n_ltN, n_Nlt, n_Nle, le_T, le_F, lt_T, lt_F, eq_T, eq_F, true_or, or_true, false_or, or_false, true_and, and_true, false_and, and_false, and_self, or_self, not_true_eq_false, not_false_eq_true, decide_eq_true_eq, decide_true, decide_false, Bool.false_eq_true, Bool.true_eq_false, eq_self, ↓reduceIte, Option.bind_some, mo_in, lit_0, lit_1, lit_2, lit_3, lit_4, lit_5, lit_6, lit_7, lit_8, lit_9, lit_10, lit_11, lit_12, lit_13, lit_14, lit_15, lit_16, lit_20, lit_22, lit_24, lit_28, lit_30, lit_31, lit_32, lit_39, lit_40, lit_42, lit_48, lit_50, lit_57, lit_60, lit_61, lit_62, lit_63, lit_64, lit_100, lit_120, lit_121, lit_122, lit_128, lit_130, lit_255, lit_256, lit_360, lit_1024, lit_2147483647, m1_pred, Nat.add_sub_cancel, lit_124, lit_38, lit_37, lit_33, lit_126, lit_59, lit_112, lit_108, lit_110, lit_104, lit_47, lit_43, lit_45, lit_41, lit_123, lit_49, lit_58, lit_68]
      have hfr : ∀ j, j < 130 + ld → upd act' (130 + ld') (nI m) j = act0 j ∧ upd wi' (130 + ld') (nI 0) j = wi0 j := fun j hj => by
        by_cases c5 : j = 130 + ld'
        · exfalso; omega
        · rw [pk_un c5, pk_un c5, (b8 j (by omega)).1, (b8 j (by omega)).2]; exact hf3 j hj
      cases r with
      | false =>
        refine ⟨q, h, ld' + 1, false, cl', op', code', _, _, b1, b2, by omega, by omega, ?_, fun z => (by cases z), ?_, hfr⟩
        · rw [hopc _ b5]; rfl
        · rw [hopen _ b7]
          simp only [Option.bind_some, mo_add (show ld' < 130 by omega), hbyte]
          exact hM
      | true =>
        obtain ⟨d1, d2, d3⟩ := b6 rfl
        refine ⟨q, h, ld' + 1, true, ga, op', gb, _, _, b1, b2, by omega, by omega, ?_, b6, ?_, hfr⟩
        · rw [hopc _ b5]
          simp only [Option.bind_some, if_true, gw]
          rw [hgc]
          exact stop_dig hk hc (by omega) d1 d2 d3 _ _ _ _ _
        · rw [hopen _ b7]
          simp only [Option.bind_some, mo_add (show ld' < 130 by omega), hbyte]
          exact hM
theorem lv_both {k : Nat} {letters tape : Nat → Int32} {c : Nat → Nat} (hk : k ≤ 120) (hc : ∀ j, j < k → c j < 256 ∧ letters j = nI (c j) ∧ tape j = (nI (c j)).toInt8.toInt32) {F o : Nat} {recM : Int32 → Int32 → Int32 → Int32 → Int32 → (Nat → Int32) → (Nat → Int32) → (Nat → Int32) → Option (Int32 × Int32 × Int32 × Int32 × (Nat → Int32) × (Nat → Int32))} (sub : PO k c o (fun cl at_ code => f_Ta_readLevel F (nI 2) (nI o) (nI k) cl at_ letters code) (fun h f op la act wi => f_Mo_compared recM (nI k) h f op la tape act wi)) : PO k c o (fun cl at_ code => f_Ta_readLevel (F + 1) (nI 1) (nI o) (nI k) cl at_ letters code) (fun h f op la act wi => f_Mo_both recM (nI k) h f op la tape act wi) := by
  intro i cl ld code act wi hi hcl hld
  have hopc : ∀ x : Option (Bool × Int32 × Int32 × (Nat → Int32)), f_Ta_readLevel F (nI (1 + 1)) (nI o) (nI k) (nI cl) (nI i) letters code = x → f_Ta_readLevel (F + 1) (nI 1) (nI o) (nI k) (nI cl) (nI i) letters code = x.bind fun (r15, u16, u17, u18) => if r15 = true then f_Ta_readLevel_L39 (f_Ta_readLevel F) 3000 (nI 1) (nI o) (nI 120) (nI 0) (nI k) u16 u17 letters u18 else some (false, u16, u17, u18) := by
    intro x hx
    rw [f_Ta_readLevel, f_Ta_readLevel_body, ← hx]
    simp (disch := omega) only [n_lt, n_le, n_eq, n_cl, n_sub, nI_add, pk_mul, n_subL, n_Lsub, n_neN, n_Nne, n_leN, n_ltN, n_Nlt, n_Nle, le_T, le_F, lt_T, lt_F, eq_T, eq_F, true_or, or_true, false_or, or_false, true_and, and_true, false_and, and_false, and_self, or_self, not_true_eq_false, not_false_eq_true, decide_eq_true_eq, decide_true, decide_false, Bool.false_eq_true, Bool.true_eq_false, eq_self, ↓reduceIte, Option.bind_some, mo_in, lit_0, lit_1, lit_2, lit_3, lit_4, lit_5, lit_6, lit_7, lit_8, lit_9, lit_10, lit_11, lit_12, lit_13, lit_14, lit_15, lit_16, lit_20, lit_22, lit_24, lit_28, lit_30, lit_31, lit_32, lit_39, lit_40, lit_42, lit_48, lit_50, lit_57, lit_60, lit_61, lit_62, lit_63, lit_64, lit_100, lit_120, lit_121, lit_122, lit_128, lit_130, lit_255, lit_256, lit_360, lit_1024, lit_2147483647, m1_pred, Nat.add_sub_cancel, lit_124, lit_38, lit_37, lit_33, lit_126, lit_59, lit_112, lit_108, lit_110, lit_104, lit_47, lit_43, lit_45, lit_41, lit_123, lit_49, lit_58, lit_68, f_Ta_readLevel_L35]
  have hopm : ∀ x : Option (Int32 × Int32 × Int32 × Int32 × (Nat → Int32) × (Nat → Int32)), f_Mo_compared recM (nI k) (nI i) (-nI 1) (nI o) (nI ld) tape act wi = x → f_Mo_both recM (nI k) (nI i) (-nI 1) (nI o) (nI ld) tape act wi = x.bind fun (u20, u21, u22, u23, u24, u25) => f_Mo_both_L4 recM 3000 (nI k) u20 u21 u22 u23 tape u24 u25 := by
    intro x hx
    rw [f_Mo_both, hx]
  rcases sub i cl ld code act wi hi hcl hld with ⟨e2, i2, ok1, ok2, ok3, ok4, code', act', wi', g1, g2, g3, g4, g5, g6⟩ | ⟨q, h, ld', r, cl', op', code', act', wi', b1, b2, b3, b4, b5, b6, b7, b8⟩
  · have hlo := lo_both hk hc sub 200 i2 i cl ld 0 3000 3000 e2 code' act' wi' code act wi (by omega) ok2 ok3 ok4 hcl hld (by omega) (by omega) (by omega) ok1 g3 g4 g5 g6
    show (∃ e i', okS k i o cl ld code act wi e i' (f_Ta_readLevel (F + 1) (nI 1) (nI o) (nI k) (nI cl) (nI i) letters code) (f_Mo_both recM (nI k) (nI i) (-nI 1) (nI o) (nI ld) tape act wi)) ∨ okF k c i ld act wi (f_Ta_readLevel (F + 1) (nI 1) (nI o) (nI k) (nI cl) (nI i) letters code) (f_Mo_both recM (nI k) (nI i) (-nI 1) (nI o) (nI ld) tape act wi)
    rw [hopc _ g1, hopm _ g2]
    exact hlo
  · have hM : f_Mo_both_L4 recM 3000 (nI k) (nI h) (nI q) op' (nI ld') tape act' wi' = some (nI h, nI q, op', nI ld', act', wi') := by
      rw [show (3000 : Nat) = 2999 + 1 from rfl, f_Mo_both_L4]
      simp (disch := omega) only [n_lt, n_le, n_eq, n_cl, n_sub, nI_add, pk_mul, n_subL, n_Lsub, n_neN, n_Nne, n_leN, n_ltN, n_Nlt, n_Nle, le_T, le_F, lt_T, lt_F, eq_T, eq_F, true_or, or_true, false_or, or_false, true_and, and_true, false_and, and_false, and_self, or_self, not_true_eq_false, not_false_eq_true, decide_eq_true_eq, decide_true, decide_false, Bool.false_eq_true, Bool.true_eq_false, eq_self, ↓reduceIte, Option.bind_some, mo_in, lit_0, lit_1, lit_2, lit_3, lit_4, lit_5, lit_6, lit_7, lit_8, lit_9, lit_10, lit_11, lit_12, lit_13, lit_14, lit_15, lit_16, lit_20, lit_22, lit_24, lit_28, lit_30, lit_31, lit_32, lit_39, lit_40, lit_42, lit_48, lit_50, lit_57, lit_60, lit_61, lit_62, lit_63, lit_64, lit_100, lit_120, lit_121, lit_122, lit_128, lit_130, lit_255, lit_256, lit_360, lit_1024, lit_2147483647, m1_pred, Nat.add_sub_cancel, lit_124, lit_38, lit_37, lit_33, lit_126, lit_59, lit_112, lit_108, lit_110, lit_104, lit_47, lit_43, lit_45, lit_41, lit_123, lit_49, lit_58, lit_68]
    refine Or.inr ⟨q, h, ld', r, cl', op', code', act', wi', b1, b2, b3, b4, ?_, b6, (hopm _ b7).trans hM, b8⟩
    cases r with
    | false => exact (hopc _ b5).trans rfl
    | true =>
      obtain ⟨d1, d2, d3⟩ := b6 rfl
      refine (hopc _ b5).trans ?_
      simp only [Option.bind_some, if_true]
      exact stop_dig (fu := 2999) hk hc (by omega) d1 d2 d3 _ _ _ _ _
theorem lo_either {k : Nat} {letters tape : Nat → Int32} {c : Nat → Nat} (hk : k ≤ 120) (hc : ∀ j, j < k → c j < 256 ∧ letters j = nI (c j) ∧ tape j = (nI (c j)).toInt8.toInt32) {F o : Nat} {recM : Int32 → Int32 → Int32 → Int32 → Int32 → (Nat → Int32) → (Nat → Int32) → (Nat → Int32) → Option (Int32 × Int32 × Int32 × Int32 × (Nat → Int32) × (Nat → Int32))} (sub : PO k c o (fun cl at_ code => f_Ta_readLevel F (nI 1) (nI o) (nI k) cl at_ letters code) (fun h f op la act wi => f_Mo_both recM (nI k) h f op la tape act wi)) : ∀ (w i i0 cl ld j fu fuM : Nat) (e : List Int32) (code act wi code0 act0 wi0 : Nat → Int32), k - i ≤ w → i0 < i → i ≤ k → i0 + e.length ≤ i → cl ≤ i0 → ld ≤ i0 → 2 * j ≤ i → w + 1 < fu → w + 1 < fuM → lw_okE e → (∀ j, j < cl → code j = code0 j) → ha code cl e → (∀ j, j < 130 + ld → act j = act0 j ∧ wi j = wi0 j) → hm act wi (130 + ld) e → (∃ e' i', okS k i0 o cl ld code0 act0 wi0 e' i' (f_Ta_readLevel_L39 (f_Ta_readLevel F) fu (nI 0) (nI o) (nI 120) (nI j) (nI k) (nI (cl + e.length)) (nI i) letters code) (f_Mo_either_L4 recM fuM (nI k) (nI i) (-nI 1) (nI o) (nI (ld + e.length)) tape act wi)) ∨ okF k c i0 ld act0 wi0 (f_Ta_readLevel_L39 (f_Ta_readLevel F) fu (nI 0) (nI o) (nI 120) (nI j) (nI k) (nI (cl + e.length)) (nI i) letters code) (f_Mo_either_L4 recM fuM (nI k) (nI i) (-nI 1) (nI o) (nI (ld + e.length)) tape act wi) := by
  intro w
  induction w with
  | zero =>
    intro i i0 cl ld j fu fuM e code act wi code0 act0 wi0 hw hi0 hik hel hcl hld hj hfu hfuM he hf1 hf2 hf3 hf4
    obtain ⟨g, rfl⟩ : ∃ g, fu = g + 1 := ⟨fu - 1, by omega⟩
    obtain ⟨gM, rfl⟩ : ∃ g, fuM = g + 1 := ⟨fuM - 1, by omega⟩
    obtain ⟨lc, lm, s1, s2, s3⟩ := see hk hc hik
    rcases s3 with ⟨m, hm128, hlt, hcm, rfl, rfl⟩ | ⟨o1, o2, _⟩
    · omega
    · refine Or.inl ⟨e, i, he, hi0, hik, hel, code, act, wi, ?_, ?_, hf1, hf2, hf3, hf4⟩
      · rw [f_Ta_readLevel_L39]
        simp (disch := omega) only [n_lt, n_le, n_eq, n_cl, n_sub, nI_add, pk_mul, n_subL, n_Lsub, n_neN, n_Nne, n_leN, n_ltN, n_Nlt, n_Nle, le_T, le_F, lt_T, lt_F, eq_T, eq_F, true_or, or_true, false_or, or_false, true_and, and_true, false_and, and_false, and_self, or_self, not_true_eq_false, not_false_eq_true, decide_eq_true_eq, decide_true, decide_false, Bool.false_eq_true, Bool.true_eq_false, eq_self, ↓reduceIte, Option.bind_some, mo_in, lit_0, lit_1, lit_2, lit_3, lit_4, lit_5, lit_6, lit_7, lit_8, lit_9, lit_10, lit_11, lit_12, lit_13, lit_14, lit_15, lit_16, lit_20, lit_22, lit_24, lit_28, lit_30, lit_31, lit_32, lit_39, lit_40, lit_42, lit_48, lit_50, lit_57, lit_60, lit_61, lit_62, lit_63, lit_64, lit_100, lit_120, lit_121, lit_122, lit_128, lit_130, lit_255, lit_256, lit_360, lit_1024, lit_2147483647, m1_pred, Nat.add_sub_cancel, lit_124, lit_38, lit_37, lit_33, lit_126, lit_59, lit_112, lit_108, lit_110, lit_104, lit_47, lit_43, lit_45, lit_41, lit_123, lit_49, lit_58, lit_68, s1, lvl_oth o1]
      · rw [f_Mo_either_L4]
        simp (disch := omega) only [n_lt, n_le, n_eq, n_cl, n_sub, nI_add, pk_mul, n_subL, n_Lsub, n_neN, n_Nne, n_leN, n_ltN, n_Nlt, n_Nle, le_T, le_F, lt_T, lt_F, eq_T, eq_F, true_or, or_true, false_or, or_false, true_and, and_true, false_and, and_false, and_self, or_self, not_true_eq_false, not_false_eq_true, decide_eq_true_eq, decide_true, decide_false, Bool.false_eq_true, Bool.true_eq_false, eq_self, ↓reduceIte, Option.bind_some, mo_in, lit_0, lit_1, lit_2, lit_3, lit_4, lit_5, lit_6, lit_7, lit_8, lit_9, lit_10, lit_11, lit_12, lit_13, lit_14, lit_15, lit_16, lit_20, lit_22, lit_24, lit_28, lit_30, lit_31, lit_32, lit_39, lit_40, lit_42, lit_48, lit_50, lit_57, lit_60, lit_61, lit_62, lit_63, lit_64, lit_100, lit_120, lit_121, lit_122, lit_128, lit_130, lit_255, lit_256, lit_360, lit_1024, lit_2147483647, m1_pred, Nat.add_sub_cancel, lit_124, lit_38, lit_37, lit_33, lit_126, lit_59, lit_112, lit_108, lit_110, lit_104, lit_47, lit_43, lit_45, lit_41, lit_123, lit_49, lit_58, lit_68, s2, o2.1 124 (by omega)]
  | succ w ih =>
    intro i i0 cl ld j fu fuM e code act wi code0 act0 wi0 hw hi0 hik hel hcl hld hj hfu hfuM he hf1 hf2 hf3 hf4
    obtain ⟨g, rfl⟩ : ∃ g, fu = g + 1 := ⟨fu - 1, by omega⟩
    obtain ⟨gM, rfl⟩ : ∃ g, fuM = g + 1 := ⟨fuM - 1, by omega⟩
    obtain ⟨lc, lm, s1, s2, s3⟩ := see hk hc hik
    rcases s3 with ⟨m, hm128, hlt, hcm, rfl, rfl⟩ | ⟨o1, o2, _⟩
    rotate_left
    · refine Or.inl ⟨e, i, he, hi0, hik, hel, code, act, wi, ?_, ?_, hf1, hf2, hf3, hf4⟩
      · rw [f_Ta_readLevel_L39]
        simp (disch := omega) only [n_lt, n_le, n_eq, n_cl, n_sub, nI_add, pk_mul, n_subL, n_Lsub, n_neN, n_Nne, n_leN, n_ltN, n_Nlt, n_Nle, le_T, le_F, lt_T, lt_F, eq_T, eq_F, true_or, or_true, false_or, or_false, true_and, and_true, false_and, and_false, and_self, or_self, not_true_eq_false, not_false_eq_true, decide_eq_true_eq, decide_true, decide_false, Bool.false_eq_true, Bool.true_eq_false, eq_self, ↓reduceIte, Option.bind_some, mo_in, lit_0, lit_1, lit_2, lit_3, lit_4, lit_5, lit_6, lit_7, lit_8, lit_9, lit_10, lit_11, lit_12, lit_13, lit_14, lit_15, lit_16, lit_20, lit_22, lit_24, lit_28, lit_30, lit_31, lit_32, lit_39, lit_40, lit_42, lit_48, lit_50, lit_57, lit_60, lit_61, lit_62, lit_63, lit_64, lit_100, lit_120, lit_121, lit_122, lit_128, lit_130, lit_255, lit_256, lit_360, lit_1024, lit_2147483647, m1_pred, Nat.add_sub_cancel, lit_124, lit_38, lit_37, lit_33, lit_126, lit_59, lit_112, lit_108, lit_110, lit_104, lit_47, lit_43, lit_45, lit_41, lit_123, lit_49, lit_58, lit_68, s1, lvl_oth o1]
      · rw [f_Mo_either_L4]
        simp (disch := omega) only [n_lt, n_le, n_eq, n_cl, n_sub, nI_add, pk_mul, n_subL, n_Lsub, n_neN, n_Nne, n_leN, n_ltN, n_Nlt, n_Nle, le_T, le_F, lt_T, lt_F, eq_T, eq_F, true_or, or_true, false_or, or_false, true_and, and_true, false_and, and_false, and_self, or_self, not_true_eq_false, not_false_eq_true, decide_eq_true_eq, decide_true, decide_false, Bool.false_eq_true, Bool.true_eq_false, eq_self, ↓reduceIte, Option.bind_some, mo_in, lit_0, lit_1, lit_2, lit_3, lit_4, lit_5, lit_6, lit_7, lit_8, lit_9, lit_10, lit_11, lit_12, lit_13, lit_14, lit_15, lit_16, lit_20, lit_22, lit_24, lit_28, lit_30, lit_31, lit_32, lit_39, lit_40, lit_42, lit_48, lit_50, lit_57, lit_60, lit_61, lit_62, lit_63, lit_64, lit_100, lit_120, lit_121, lit_122, lit_128, lit_130, lit_255, lit_256, lit_360, lit_1024, lit_2147483647, m1_pred, Nat.add_sub_cancel, lit_124, lit_38, lit_37, lit_33, lit_126, lit_59, lit_112, lit_108, lit_110, lit_104, lit_47, lit_43, lit_45, lit_41, lit_123, lit_49, lit_58, lit_68, s2, o2.1 124 (by omega)]
    have hlv := lvl_of m hm128
    by_cases hop : m = 124
    rotate_left
    · have hne : (lvl m = nI 0) = False := eq_false (fun z => hop ((lvl_0 m hm128).mp z))
      refine Or.inl ⟨e, i, he, hi0, hik, hel, code, act, wi, ?_, ?_, hf1, hf2, hf3, hf4⟩
      · rw [f_Ta_readLevel_L39]
        simp (disch := omega) only [n_lt, n_le, n_eq, n_cl, n_sub, nI_add, pk_mul, n_subL, n_Lsub, n_neN, n_Nne, n_leN, n_ltN, n_Nlt, n_Nle, le_T, le_F, lt_T, lt_F, eq_T, eq_F, true_or, or_true, false_or, or_false, true_and, and_true, false_and, and_false, and_self, or_self, not_true_eq_false, not_false_eq_true, decide_eq_true_eq, decide_true, decide_false, Bool.false_eq_true, Bool.true_eq_false, eq_self, ↓reduceIte, Option.bind_some, mo_in, lit_0, lit_1, lit_2, lit_3, lit_4, lit_5, lit_6, lit_7, lit_8, lit_9, lit_10, lit_11, lit_12, lit_13, lit_14, lit_15, lit_16, lit_20, lit_22, lit_24, lit_28, lit_30, lit_31, lit_32, lit_39, lit_40, lit_42, lit_48, lit_50, lit_57, lit_60, lit_61, lit_62, lit_63, lit_64, lit_100, lit_120, lit_121, lit_122, lit_128, lit_130, lit_255, lit_256, lit_360, lit_1024, lit_2147483647, m1_pred, Nat.add_sub_cancel, lit_124, lit_38, lit_37, lit_33, lit_126, lit_59, lit_112, lit_108, lit_110, lit_104, lit_47, lit_43, lit_45, lit_41, lit_123, lit_49, lit_58, lit_68, s1, hlv, hne]
      · rw [f_Mo_either_L4]
        simp (disch := omega) only [n_lt, n_le, n_eq, n_cl, n_sub, nI_add, pk_mul, n_subL, n_Lsub, n_neN, n_Nne, n_leN, n_ltN, n_Nlt, n_Nle, le_T, le_F, lt_T, lt_F, eq_T, eq_F, true_or, or_true, false_or, or_false, true_and, and_true, false_and, and_false, and_self, or_self, not_true_eq_false, not_false_eq_true, decide_eq_true_eq, decide_true, decide_false, Bool.false_eq_true, Bool.true_eq_false, eq_self, ↓reduceIte, Option.bind_some, mo_in, lit_0, lit_1, lit_2, lit_3, lit_4, lit_5, lit_6, lit_7, lit_8, lit_9, lit_10, lit_11, lit_12, lit_13, lit_14, lit_15, lit_16, lit_20, lit_22, lit_24, lit_28, lit_30, lit_31, lit_32, lit_39, lit_40, lit_42, lit_48, lit_50, lit_57, lit_60, lit_61, lit_62, lit_63, lit_64, lit_100, lit_120, lit_121, lit_122, lit_128, lit_130, lit_255, lit_256, lit_360, lit_1024, lit_2147483647, m1_pred, Nat.add_sub_cancel, lit_124, lit_38, lit_37, lit_33, lit_126, lit_59, lit_112, lit_108, lit_110, lit_104, lit_47, lit_43, lit_45, lit_41, lit_123, lit_49, lit_58, lit_68, s2]
    have heq : (lvl m = nI 0) = True := eq_true ((lvl_0 m hm128).mpr hop)
    obtain ⟨hbin, hal⟩ := op_0 m hm128 hop
    have hbyte := fa_byte_small hm128
    have hopen : ∀ x : Option (Int32 × Int32 × Int32 × Int32 × (Nat → Int32) × (Nat → Int32)), (f_Mo_both recM (nI k) (nI (i + 1)) (-nI 1) (nI o) (nI (ld + e.length)) tape act wi) = x → f_Mo_either_L4 recM (gM + 1) (nI k) (nI i) (-nI 1) (nI o) (nI (ld + e.length)) tape act wi = x.bind fun (u9, u10, u11, u12, u13, u14) => (f_Mo_addStep (nI m) (nI 0) u12 u13 u14).bind fun (u16, u17, u18) => f_Mo_either_L4 recM gM (nI k) u9 u10 u11 u16 tape u17 u18 := by
      intro x hx
      rw [f_Mo_either_L4]
      subst hop
      simp (disch := omega) only [n_lt, n_le, n_eq, n_cl, n_sub, nI_add, pk_mul, n_subL, n_Lsub, n_neN, n_Nne, n_leN, n_ltN, n_Nlt, n_Nle, le_T, le_F, lt_T, lt_F, eq_T, eq_F, true_or, or_true, false_or, or_false, true_and, and_true, false_and, and_false, and_self, or_self, not_true_eq_false, not_false_eq_true, decide_eq_true_eq, decide_true, decide_false, Bool.false_eq_true, Bool.true_eq_false, eq_self, ↓reduceIte, Option.bind_some, mo_in, lit_0, lit_1, lit_2, lit_3, lit_4, lit_5, lit_6, lit_7, lit_8, lit_9, lit_10, lit_11, lit_12, lit_13, lit_14, lit_15, lit_16, lit_20, lit_22, lit_24, lit_28, lit_30, lit_31, lit_32, lit_39, lit_40, lit_42, lit_48, lit_50, lit_57, lit_60, lit_61, lit_62, lit_63, lit_64, lit_100, lit_120, lit_121, lit_122, lit_128, lit_130, lit_255, lit_256, lit_360, lit_1024, lit_2147483647, m1_pred, Nat.add_sub_cancel, lit_124, lit_38, lit_37, lit_33, lit_126, lit_59, lit_112, lit_108, lit_110, lit_104, lit_47, lit_43, lit_45, lit_41, lit_123, lit_49, lit_58, lit_68, s2, hx]
    have hopc : ∀ x : Option (Bool × Int32 × Int32 × (Nat → Int32)), f_Ta_readLevel F (nI (0 + 1)) (nI o) (nI k) (nI (cl + e.length)) (nI (i + 1)) letters code = x → f_Ta_readLevel_L39 (f_Ta_readLevel F) (g + 1) (nI 0) (nI o) (nI 120) (nI j) (nI k) (nI (cl + e.length)) (nI i) letters code = x.bind fun (r7, u8, u9, u10) => if r7 = true then (f_Ta_write (-nI m) u8 u10).bind fun (u12, u13) => f_Ta_readLevel_L39 (f_Ta_readLevel F) g (nI 0) (nI o) (nI 120) (nI (j + 1)) (nI k) u12 u9 letters u13 else some (false, u8, u9, u10) := by
      intro x hx
      rw [f_Ta_readLevel_L39, ← hx]
      simp (disch := omega) only [n_lt, n_le, n_eq, n_cl, n_sub, nI_add, pk_mul, n_subL, n_Lsub, n_neN, n_Nne, n_leN, n_ltN, n_Nlt, n_Nle, le_T, le_F, lt_T, lt_F, eq_T, eq_F, true_or, or_true, false_or, or_false, true_and, and_true, false_and, and_false, and_self, or_self, not_true_eq_false, not_false_eq_true, decide_eq_true_eq, decide_true, decide_false, Bool.false_eq_true, Bool.true_eq_false, eq_self, ↓reduceIte, Option.bind_some, mo_in, lit_0, lit_1, lit_2, lit_3, lit_4, lit_5, lit_6, lit_7, lit_8, lit_9, lit_10, lit_11, lit_12, lit_13, lit_14, lit_15, lit_16, lit_20, lit_22, lit_24, lit_28, lit_30, lit_31, lit_32, lit_39, lit_40, lit_42, lit_48, lit_50, lit_57, lit_60, lit_61, lit_62, lit_63, lit_64, lit_100, lit_120, lit_121, lit_122, lit_128, lit_130, lit_255, lit_256, lit_360, lit_1024, lit_2147483647, m1_pred, Nat.add_sub_cancel, lit_124, lit_38, lit_37, lit_33, lit_126, lit_59, lit_112, lit_108, lit_110, lit_104, lit_47, lit_43, lit_45, lit_41, lit_123, lit_49, lit_58, lit_68, s1, hlv, heq]
    rcases sub (i + 1) (cl + e.length) (ld + e.length) code act wi (by omega) (by omega) (by omega) with ⟨e2, i2, ok1, ok2, ok3, ok4, code', act', wi', g1, g2, g3, g4, g5, g6⟩ | ⟨q, h, ld', r, cl', op', code', act', wi', b1, b2, b3, b4, b5, b6, b7, b8⟩
    · have hlen : (e ++ e2 ++ [-nI m]).length = e.length + e2.length + 1 := by simp; omega
      have hlen2 : (e ++ e2).length = e.length + e2.length := by simp
      have c1 := ha_snoc (s := -nI m) (ha_app hf2 g4 g3)
      have c2 := hm_snoc (s := -nI m) (hm_app hf4 (by rw [show 130 + ld + e.length = 130 + (ld + e.length) by omega]; exact g6) (fun j hj => g5 j (by omega))) hal
      rw [hlen2, show cl + (e.length + e2.length) = cl + e.length + e2.length by omega] at c1
      rw [hlen2, show 130 + ld + (e.length + e2.length) = 130 + (ld + e.length + e2.length) by omega] at c2
      have hih := ih i2 i0 cl ld (j + 1) g gM (e ++ e2 ++ [-nI m]) _ _ _ code0 act0 wi0 (by omega) (by omega) ok3 (by rw [hlen]; omega) hcl hld (by omega) (by omega) (by omega) (okE_bin he ok1 hbin) (fun j hj => by rw [pk_un (by omega), g3 j (by omega)]; exact hf1 j hj) c1 (fun j hj => by rw [pk_un (by omega), pk_un (by omega), (g5 j (by omega)).1, (g5 j (by omega)).2]; exact hf3 j hj) c2
      rw [hlen, show cl + (e.length + e2.length + 1) = cl + e.length + e2.length + 1 by omega, show ld + (e.length + e2.length + 1) = ld + e.length + e2.length + 1 by omega] at hih
      rw [hopc _ g1, hopen _ g2]
      simp only [Option.bind_some, if_true, ta_write (show cl + e.length + e2.length < 256 by omega), mo_add (show ld + e.length + e2.length < 130 by omega), hbyte]
      exact hih
    · refine Or.inr ?_
      obtain ⟨ga, gb, gw⟩ := ta_write_any (-nI m) cl' code'
      obtain ⟨gm, hgm⟩ : ∃ x, gM = x + 1 := ⟨gM - 1, by omega⟩
      obtain ⟨gc, hgc⟩ : ∃ x, g = x + 1 := ⟨g - 1, by omega⟩
      have hM : f_Mo_either_L4 recM gM (nI k) (nI h) (nI q) op' (nI (ld' + 1)) tape (upd act' (130 + ld') (nI m)) (upd wi' (130 + ld') (nI 0)) = some (nI h, nI q, op', nI (ld' + 1), upd act' (130 + ld') (nI m), upd wi' (130 + ld') (nI 0)) := by
        rw [hgm, f_Mo_either_L4]
        simp (disch := omega) only [n_lt, n_le, n_eq, n_cl, n_sub, nI_add, pk_mul, n_subL, n_Lsub, n_neN, n_Nne, n_leN, n_ltN, n_Nlt, n_Nle, le_T, le_F, lt_T, lt_F, eq_T, eq_F, true_or, or_true, false_or, or_false, true_and, and_true, false_and, and_false, and_self, or_self, not_true_eq_false, not_false_eq_true, decide_eq_true_eq, decide_true, decide_false, Bool.false_eq_true, Bool.true_eq_false, eq_self, ↓reduceIte, Option.bind_some, mo_in, lit_0, lit_1, lit_2, lit_3, lit_4, lit_5, lit_6, lit_7, lit_8, lit_9, lit_10, lit_11, lit_12, lit_13, lit_14, lit_15, lit_16, lit_20, lit_22, lit_24, lit_28, lit_30, lit_31, lit_32, lit_39, lit_40, lit_42, lit_48, lit_50, lit_57, lit_60, lit_61, lit_62, lit_63, lit_64, lit_100, lit_120, lit_121, lit_122, lit_128, lit_130, lit_255, lit_256, lit_360, lit_1024, lit_2147483647, m1_pred, Nat.add_sub_cancel, lit_124, lit_38, lit_37, lit_33, lit_126, lit_59, lit_112, lit_108, lit_110, lit_104, lit_47, lit_43, lit_45, lit_41, lit_123, lit_49, lit_58, lit_68]
      have hfr : ∀ j, j < 130 + ld → upd act' (130 + ld') (nI m) j = act0 j ∧ upd wi' (130 + ld') (nI 0) j = wi0 j := fun j hj => by
        by_cases c5 : j = 130 + ld'
        · exfalso; omega
        · rw [pk_un c5, pk_un c5, (b8 j (by omega)).1, (b8 j (by omega)).2]; exact hf3 j hj
      cases r with
      | false =>
        refine ⟨q, h, ld' + 1, false, cl', op', code', _, _, b1, b2, by omega, by omega, ?_, fun z => (by cases z), ?_, hfr⟩
        · rw [hopc _ b5]; rfl
        · rw [hopen _ b7]
          simp only [Option.bind_some, mo_add (show ld' < 130 by omega), hbyte]
          exact hM
      | true =>
        obtain ⟨d1, d2, d3⟩ := b6 rfl
        refine ⟨q, h, ld' + 1, true, ga, op', gb, _, _, b1, b2, by omega, by omega, ?_, b6, ?_, hfr⟩
        · rw [hopc _ b5]
          simp only [Option.bind_some, if_true, gw]
          rw [hgc]
          exact stop_dig hk hc (by omega) d1 d2 d3 _ _ _ _ _
        · rw [hopen _ b7]
          simp only [Option.bind_some, mo_add (show ld' < 130 by omega), hbyte]
          exact hM
theorem lv_either {k : Nat} {letters tape : Nat → Int32} {c : Nat → Nat} (hk : k ≤ 120) (hc : ∀ j, j < k → c j < 256 ∧ letters j = nI (c j) ∧ tape j = (nI (c j)).toInt8.toInt32) {F o : Nat} {recM : Int32 → Int32 → Int32 → Int32 → Int32 → (Nat → Int32) → (Nat → Int32) → (Nat → Int32) → Option (Int32 × Int32 × Int32 × Int32 × (Nat → Int32) × (Nat → Int32))} (sub : PO k c o (fun cl at_ code => f_Ta_readLevel F (nI 1) (nI o) (nI k) cl at_ letters code) (fun h f op la act wi => f_Mo_both recM (nI k) h f op la tape act wi)) : PO k c o (fun cl at_ code => f_Ta_readLevel (F + 1) (nI 0) (nI o) (nI k) cl at_ letters code) (fun h f op la act wi => f_Mo_either recM (nI k) h f op la tape act wi) := by
  intro i cl ld code act wi hi hcl hld
  have hopc : ∀ x : Option (Bool × Int32 × Int32 × (Nat → Int32)), f_Ta_readLevel F (nI (0 + 1)) (nI o) (nI k) (nI cl) (nI i) letters code = x → f_Ta_readLevel (F + 1) (nI 0) (nI o) (nI k) (nI cl) (nI i) letters code = x.bind fun (r15, u16, u17, u18) => if r15 = true then f_Ta_readLevel_L39 (f_Ta_readLevel F) 3000 (nI 0) (nI o) (nI 120) (nI 0) (nI k) u16 u17 letters u18 else some (false, u16, u17, u18) := by
    intro x hx
    rw [f_Ta_readLevel, f_Ta_readLevel_body, ← hx]
    simp (disch := omega) only [n_lt, n_le, n_eq, n_cl, n_sub, nI_add, pk_mul, n_subL, n_Lsub, n_neN, n_Nne, n_leN, n_ltN, n_Nlt, n_Nle, le_T, le_F, lt_T, lt_F, eq_T, eq_F, true_or, or_true, false_or, or_false, true_and, and_true, false_and, and_false, and_self, or_self, not_true_eq_false, not_false_eq_true, decide_eq_true_eq, decide_true, decide_false, Bool.false_eq_true, Bool.true_eq_false, eq_self, ↓reduceIte, Option.bind_some, mo_in, lit_0, lit_1, lit_2, lit_3, lit_4, lit_5, lit_6, lit_7, lit_8, lit_9, lit_10, lit_11, lit_12, lit_13, lit_14, lit_15, lit_16, lit_20, lit_22, lit_24, lit_28, lit_30, lit_31, lit_32, lit_39, lit_40, lit_42, lit_48, lit_50, lit_57, lit_60, lit_61, lit_62, lit_63, lit_64, lit_100, lit_120, lit_121, lit_122, lit_128, lit_130, lit_255, lit_256, lit_360, lit_1024, lit_2147483647, m1_pred, Nat.add_sub_cancel, lit_124, lit_38, lit_37, lit_33, lit_126, lit_59, lit_112, lit_108, lit_110, lit_104, lit_47, lit_43, lit_45, lit_41, lit_123, lit_49, lit_58, lit_68, f_Ta_readLevel_L35]
  have hopm : ∀ x : Option (Int32 × Int32 × Int32 × Int32 × (Nat → Int32) × (Nat → Int32)), f_Mo_both recM (nI k) (nI i) (-nI 1) (nI o) (nI ld) tape act wi = x → f_Mo_either recM (nI k) (nI i) (-nI 1) (nI o) (nI ld) tape act wi = x.bind fun (u20, u21, u22, u23, u24, u25) => f_Mo_either_L4 recM 3000 (nI k) u20 u21 u22 u23 tape u24 u25 := by
    intro x hx
    rw [f_Mo_either, hx]
  rcases sub i cl ld code act wi hi hcl hld with ⟨e2, i2, ok1, ok2, ok3, ok4, code', act', wi', g1, g2, g3, g4, g5, g6⟩ | ⟨q, h, ld', r, cl', op', code', act', wi', b1, b2, b3, b4, b5, b6, b7, b8⟩
  · have hlo := lo_either hk hc sub 200 i2 i cl ld 0 3000 3000 e2 code' act' wi' code act wi (by omega) ok2 ok3 ok4 hcl hld (by omega) (by omega) (by omega) ok1 g3 g4 g5 g6
    show (∃ e i', okS k i o cl ld code act wi e i' (f_Ta_readLevel (F + 1) (nI 0) (nI o) (nI k) (nI cl) (nI i) letters code) (f_Mo_either recM (nI k) (nI i) (-nI 1) (nI o) (nI ld) tape act wi)) ∨ okF k c i ld act wi (f_Ta_readLevel (F + 1) (nI 0) (nI o) (nI k) (nI cl) (nI i) letters code) (f_Mo_either recM (nI k) (nI i) (-nI 1) (nI o) (nI ld) tape act wi)
    rw [hopc _ g1, hopm _ g2]
    exact hlo
  · have hM : f_Mo_either_L4 recM 3000 (nI k) (nI h) (nI q) op' (nI ld') tape act' wi' = some (nI h, nI q, op', nI ld', act', wi') := by
      rw [show (3000 : Nat) = 2999 + 1 from rfl, f_Mo_either_L4]
      simp (disch := omega) only [n_lt, n_le, n_eq, n_cl, n_sub, nI_add, pk_mul, n_subL, n_Lsub, n_neN, n_Nne, n_leN, n_ltN, n_Nlt, n_Nle, le_T, le_F, lt_T, lt_F, eq_T, eq_F, true_or, or_true, false_or, or_false, true_and, and_true, false_and, and_false, and_self, or_self, not_true_eq_false, not_false_eq_true, decide_eq_true_eq, decide_true, decide_false, Bool.false_eq_true, Bool.true_eq_false, eq_self, ↓reduceIte, Option.bind_some, mo_in, lit_0, lit_1, lit_2, lit_3, lit_4, lit_5, lit_6, lit_7, lit_8, lit_9, lit_10, lit_11, lit_12, lit_13, lit_14, lit_15, lit_16, lit_20, lit_22, lit_24, lit_28, lit_30, lit_31, lit_32, lit_39, lit_40, lit_42, lit_48, lit_50, lit_57, lit_60, lit_61, lit_62, lit_63, lit_64, lit_100, lit_120, lit_121, lit_122, lit_128, lit_130, lit_255, lit_256, lit_360, lit_1024, lit_2147483647, m1_pred, Nat.add_sub_cancel, lit_124, lit_38, lit_37, lit_33, lit_126, lit_59, lit_112, lit_108, lit_110, lit_104, lit_47, lit_43, lit_45, lit_41, lit_123, lit_49, lit_58, lit_68]
    refine Or.inr ⟨q, h, ld', r, cl', op', code', act', wi', b1, b2, b3, b4, ?_, b6, (hopm _ b7).trans hM, b8⟩
    cases r with
    | false => exact (hopc _ b5).trans rfl
    | true =>
      obtain ⟨d1, d2, d3⟩ := b6 rfl
      refine (hopc _ b5).trans ?_
      simp only [Option.bind_some, if_true]
      exact stop_dig (fu := 2999) hk hc (by omega) d1 d2 d3 _ _ _ _ _
