/-! PURE: rules by which simp runs a method; places and numbers are told by omega -/
theorem lit_0 : (0 : Int32) = nI 0 := rfl
theorem lit_1 : (1 : Int32) = nI 1 := rfl
theorem lit_2 : (2 : Int32) = nI 2 := rfl
theorem lit_3 : (3 : Int32) = nI 3 := rfl
theorem lit_4 : (4 : Int32) = nI 4 := rfl
theorem lit_5 : (5 : Int32) = nI 5 := rfl
theorem lit_6 : (6 : Int32) = nI 6 := rfl
theorem lit_7 : (7 : Int32) = nI 7 := rfl
theorem lit_8 : (8 : Int32) = nI 8 := rfl
theorem lit_9 : (9 : Int32) = nI 9 := rfl
theorem lit_10 : (10 : Int32) = nI 10 := rfl
theorem lit_11 : (11 : Int32) = nI 11 := rfl
theorem lit_12 : (12 : Int32) = nI 12 := rfl
theorem lit_13 : (13 : Int32) = nI 13 := rfl
theorem lit_14 : (14 : Int32) = nI 14 := rfl
theorem lit_15 : (15 : Int32) = nI 15 := rfl
theorem lit_16 : (16 : Int32) = nI 16 := rfl
theorem lit_20 : (20 : Int32) = nI 20 := rfl
theorem lit_22 : (22 : Int32) = nI 22 := rfl
theorem lit_24 : (24 : Int32) = nI 24 := rfl
theorem lit_28 : (28 : Int32) = nI 28 := rfl
theorem lit_30 : (30 : Int32) = nI 30 := rfl
theorem lit_31 : (31 : Int32) = nI 31 := rfl
theorem lit_32 : (32 : Int32) = nI 32 := rfl
theorem lit_39 : (39 : Int32) = nI 39 := rfl
theorem lit_40 : (40 : Int32) = nI 40 := rfl
theorem lit_42 : (42 : Int32) = nI 42 := rfl
theorem lit_48 : (48 : Int32) = nI 48 := rfl
theorem lit_50 : (50 : Int32) = nI 50 := rfl
theorem lit_57 : (57 : Int32) = nI 57 := rfl
theorem lit_60 : (60 : Int32) = nI 60 := rfl
theorem lit_61 : (61 : Int32) = nI 61 := rfl
theorem lit_62 : (62 : Int32) = nI 62 := rfl
theorem lit_63 : (63 : Int32) = nI 63 := rfl
theorem lit_64 : (64 : Int32) = nI 64 := rfl
theorem lit_100 : (100 : Int32) = nI 100 := rfl
theorem lit_120 : (120 : Int32) = nI 120 := rfl
theorem lit_121 : (121 : Int32) = nI 121 := rfl
theorem lit_122 : (122 : Int32) = nI 122 := rfl
theorem lit_128 : (128 : Int32) = nI 128 := rfl
theorem lit_130 : (130 : Int32) = nI 130 := rfl
theorem lit_255 : (255 : Int32) = nI 255 := rfl
theorem lit_256 : (256 : Int32) = nI 256 := rfl
theorem lit_360 : (360 : Int32) = nI 360 := rfl
theorem lit_1024 : (1024 : Int32) = nI 1024 := rfl
theorem lit_2147483647 : (2147483647 : Int32) = nI 2147483647 := rfl
theorem le_T {a b : Nat} (h : a ≤ b) : (a ≤ b) = True := eq_true h
theorem le_F {a b : Nat} (h : ¬ a ≤ b) : (a ≤ b) = False := eq_false h
theorem lt_T {a b : Nat} (h : a < b) : (a < b) = True := eq_true h
theorem lt_F {a b : Nat} (h : ¬ a < b) : (a < b) = False := eq_false h
theorem eq_T {a b : Nat} (h : a = b) : (a = b) = True := eq_true h
theorem eq_F {a b : Nat} (h : ¬ a = b) : (a = b) = False := eq_false h
theorem m_lt {x : Int32} (h : x < 0) {k : Nat} (hk : k < 2147483648) : (x < nI k) = True := eq_true (n_neg_lt h hk)
theorem m_le {x : Int32} (h : x < 0) {k : Nat} (hk : k < 2147483648) : (nI k ≤ x) = False := eq_false (n_neg_le h hk)
theorem m_gt {x : Int32} (h : x < 0) {k : Nat} (hk : k < 2147483648) : (nI k < x) = False := eq_false (fun z => Int32.lt_irrefl (Int32.lt_trans z (n_neg_lt h hk)))
theorem m_ge {x : Int32} (h : x < 0) {k : Nat} (hk : k < 2147483648) : (x ≤ nI k) = True := eq_true (Int32.le_of_lt (n_neg_lt h hk))
theorem m_eq {x : Int32} (h : x < 0) {k : Nat} (hk : k < 2147483648) : (x = nI k) = False := eq_false (fun z => by subst z; exact nI_pos hk h)
theorem n_subT {a b : Nat} (ha : a < 2147483648) (hb : b < 2147483648) : (nI a - nI b).toInt = (a : Int) - b := by
  rw [Int32.toInt_sub, nI_toInt (by omega), nI_toInt (by omega)]
  exact Int.bmod_eq_of_le (by omega) (by omega)
theorem n_subL {a b c : Nat} (ha : a < 2147483648) (hb : b < 2147483648) (hc : c < 2147483648) : (nI a - nI b < nI c) = (a < c + b) := by
  apply propext
  rw [Int32.lt_iff_toInt_lt, n_subT ha hb, nI_toInt (by omega)]
  omega
theorem n_Lsub {a b c : Nat} (ha : a < 2147483648) (hb : b < 2147483648) (hc : c < 2147483648) : (nI c ≤ nI a - nI b) = (c + b ≤ a) := by
  apply propext
  rw [Int32.le_iff_toInt_le, n_subT ha hb, nI_toInt (by omega)]
  omega
theorem n_negT {k : Nat} (hk : k < 2147483648) : (-nI k).toInt = -(k : Int) := by
  rw [show -nI k = nI 0 - nI k from (Int32.zero_sub _).symm, n_subT (by omega) hk]
  omega
theorem n_neN {a k : Nat} (ha : a < 2147483648) (h0 : 0 < k) (hk : k < 2147483648) : (nI a = -nI k) = False := eq_false (fun z => by
  have h := congrArg Int32.toInt z
  rw [nI_toInt (by omega), n_negT hk] at h
  omega)
theorem n_Nne {a k : Nat} (ha : a < 2147483648) (h0 : 0 < k) (hk : k < 2147483648) : (-nI k = nI a) = False := eq_false (fun z => by
  have h := congrArg Int32.toInt z
  rw [nI_toInt (by omega), n_negT hk] at h
  omega)
theorem n_leN {a k : Nat} (ha : a < 2147483648) (h0 : 0 < k) (hk : k < 2147483648) : (nI a ≤ -nI k) = False := eq_false (fun z => by
  rw [Int32.le_iff_toInt_le, nI_toInt (by omega), n_negT hk] at z
  omega)
theorem n_ltN {a k : Nat} (ha : a < 2147483648) (hk : k < 2147483648) : (nI a < -nI k) = False := eq_false (fun z => by
  rw [Int32.lt_iff_toInt_lt, nI_toInt (by omega), n_negT hk] at z
  omega)
theorem n_Nlt {a k : Nat} (ha : a < 2147483648) (h0 : 0 < k) (hk : k < 2147483648) : (-nI k < nI a) = True := eq_true (by
  rw [Int32.lt_iff_toInt_lt, nI_toInt (by omega), n_negT hk]
  omega)
theorem n_Nle {a k : Nat} (ha : a < 2147483648) (hk : k < 2147483648) : (-nI k ≤ nI a) = True := eq_true (by
  rw [Int32.le_iff_toInt_le, nI_toInt (by omega), n_negT hk]
  omega)
theorem q_upds {f : Nat → Int32} {k : Nat} {x : Int32} : upd f k x k = x := pk_us
theorem ok_set {t : Nat} {x_L_rules_rest : Int32} {x_L_rules_shy : Int32} {x_M_rest : Int32} {x_M_shy : Int32} (ht : t < 64) (p1 : Int32) (p2 : Int32) (hU : R_set x_L_rules_rest x_L_rules_shy x_M_rest x_M_shy) : ∃ (r : Int32) (u_L_rules_rest : Int32) (u_L_rules_shy : Int32) (u_M_rest : Int32) (u_M_shy : Int32), f_OL_set p1 p2 x_L_rules_rest x_L_rules_shy = some (r, u_L_rules_rest, u_L_rules_shy) ∧ f_Mo_set p1 p2 x_M_rest x_M_shy = some (r, u_M_rest, u_M_shy) ∧ R_set u_L_rules_rest u_L_rules_shy u_M_rest u_M_shy := by
  obtain ⟨h1, h2⟩ := hU
  subst h1 h2
  rcases n_cases p1 with a | ⟨i, hi, rfl⟩
  · simp (disch := omega) only [n_lt, n_le, n_eq, n_cl, n_sub, nI_add, pk_mul, n_subL, n_Lsub, n_neN, n_Nne, n_leN, n_ltN, n_Nlt, n_Nle, le_T, le_F, lt_T, lt_F, eq_T, eq_F, true_or, or_true, false_or, or_false, true_and, and_true, false_and, and_false, and_self, or_self, not_true_eq_false, not_false_eq_true, decide_eq_true_eq, decide_true, decide_false, Bool.false_eq_true, Bool.true_eq_false, eq_self, ↓reduceIte, Option.bind_some, mo_in, lit_0, lit_1, lit_2, lit_3, lit_4, lit_5, lit_6, lit_7, lit_8, lit_9, lit_10, lit_11, lit_12, lit_13, lit_14, lit_15, lit_16, lit_20, lit_22, lit_24, lit_28, lit_30, lit_31, lit_32, lit_39, lit_40, lit_42, lit_48, lit_50, lit_57, lit_60, lit_61, lit_62, lit_63, lit_64, lit_100, lit_120, lit_121, lit_122, lit_128, lit_130, lit_255, lit_256, lit_360, lit_1024, lit_2147483647, f_OL_set, f_Mo_set, f_Mo_set_L26, m_lt a, m_le a, m_gt a, m_ge a, m_eq a]
    exact ⟨_, _, _, _, _, rfl, rfl, rfl, rfl⟩
  rcases n_cases p2 with b | ⟨j, hj, rfl⟩
  · by_cases h0 : i = 0
    · simp (disch := omega) only [n_lt, n_le, n_eq, n_cl, n_sub, nI_add, pk_mul, n_subL, n_Lsub, n_neN, n_Nne, n_leN, n_ltN, n_Nlt, n_Nle, le_T, le_F, lt_T, lt_F, eq_T, eq_F, true_or, or_true, false_or, or_false, true_and, and_true, false_and, and_false, and_self, or_self, not_true_eq_false, not_false_eq_true, decide_eq_true_eq, decide_true, decide_false, Bool.false_eq_true, Bool.true_eq_false, eq_self, ↓reduceIte, Option.bind_some, mo_in, lit_0, lit_1, lit_2, lit_3, lit_4, lit_5, lit_6, lit_7, lit_8, lit_9, lit_10, lit_11, lit_12, lit_13, lit_14, lit_15, lit_16, lit_20, lit_22, lit_24, lit_28, lit_30, lit_31, lit_32, lit_39, lit_40, lit_42, lit_48, lit_50, lit_57, lit_60, lit_61, lit_62, lit_63, lit_64, lit_100, lit_120, lit_121, lit_122, lit_128, lit_130, lit_255, lit_256, lit_360, lit_1024, lit_2147483647, f_OL_set, f_Mo_set, f_Mo_set_L26, m_lt b, m_le b, m_gt b, m_ge b, m_eq b]
      exact ⟨_, _, _, _, _, rfl, rfl, rfl, rfl⟩
    · by_cases h1 : i = 1
      · simp (disch := omega) only [n_lt, n_le, n_eq, n_cl, n_sub, nI_add, pk_mul, n_subL, n_Lsub, n_neN, n_Nne, n_leN, n_ltN, n_Nlt, n_Nle, le_T, le_F, lt_T, lt_F, eq_T, eq_F, true_or, or_true, false_or, or_false, true_and, and_true, false_and, and_false, and_self, or_self, not_true_eq_false, not_false_eq_true, decide_eq_true_eq, decide_true, decide_false, Bool.false_eq_true, Bool.true_eq_false, eq_self, ↓reduceIte, Option.bind_some, mo_in, lit_0, lit_1, lit_2, lit_3, lit_4, lit_5, lit_6, lit_7, lit_8, lit_9, lit_10, lit_11, lit_12, lit_13, lit_14, lit_15, lit_16, lit_20, lit_22, lit_24, lit_28, lit_30, lit_31, lit_32, lit_39, lit_40, lit_42, lit_48, lit_50, lit_57, lit_60, lit_61, lit_62, lit_63, lit_64, lit_100, lit_120, lit_121, lit_122, lit_128, lit_130, lit_255, lit_256, lit_360, lit_1024, lit_2147483647, f_OL_set, f_Mo_set, f_Mo_set_L26, m_lt b, m_le b, m_gt b, m_ge b, m_eq b]
        exact ⟨_, _, _, _, _, rfl, rfl, rfl, rfl⟩
      · simp (disch := omega) only [n_lt, n_le, n_eq, n_cl, n_sub, nI_add, pk_mul, n_subL, n_Lsub, n_neN, n_Nne, n_leN, n_ltN, n_Nlt, n_Nle, le_T, le_F, lt_T, lt_F, eq_T, eq_F, true_or, or_true, false_or, or_false, true_and, and_true, false_and, and_false, and_self, or_self, not_true_eq_false, not_false_eq_true, decide_eq_true_eq, decide_true, decide_false, Bool.false_eq_true, Bool.true_eq_false, eq_self, ↓reduceIte, Option.bind_some, mo_in, lit_0, lit_1, lit_2, lit_3, lit_4, lit_5, lit_6, lit_7, lit_8, lit_9, lit_10, lit_11, lit_12, lit_13, lit_14, lit_15, lit_16, lit_20, lit_22, lit_24, lit_28, lit_30, lit_31, lit_32, lit_39, lit_40, lit_42, lit_48, lit_50, lit_57, lit_60, lit_61, lit_62, lit_63, lit_64, lit_100, lit_120, lit_121, lit_122, lit_128, lit_130, lit_255, lit_256, lit_360, lit_1024, lit_2147483647, f_OL_set, f_Mo_set, f_Mo_set_L26, m_lt b, m_le b, m_gt b, m_ge b, m_eq b]
        exact ⟨_, _, _, _, _, rfl, rfl, rfl, rfl⟩
  by_cases h0 : i = 0
  · by_cases hv : j ≤ 9
    · simp (disch := omega) only [n_lt, n_le, n_eq, n_cl, n_sub, nI_add, pk_mul, n_subL, n_Lsub, n_neN, n_Nne, n_leN, n_ltN, n_Nlt, n_Nle, le_T, le_F, lt_T, lt_F, eq_T, eq_F, true_or, or_true, false_or, or_false, true_and, and_true, false_and, and_false, and_self, or_self, not_true_eq_false, not_false_eq_true, decide_eq_true_eq, decide_true, decide_false, Bool.false_eq_true, Bool.true_eq_false, eq_self, ↓reduceIte, Option.bind_some, mo_in, lit_0, lit_1, lit_2, lit_3, lit_4, lit_5, lit_6, lit_7, lit_8, lit_9, lit_10, lit_11, lit_12, lit_13, lit_14, lit_15, lit_16, lit_20, lit_22, lit_24, lit_28, lit_30, lit_31, lit_32, lit_39, lit_40, lit_42, lit_48, lit_50, lit_57, lit_60, lit_61, lit_62, lit_63, lit_64, lit_100, lit_120, lit_121, lit_122, lit_128, lit_130, lit_255, lit_256, lit_360, lit_1024, lit_2147483647, f_OL_set, f_OL_set_L24, f_OL_set_L50, f_Mo_set, f_Mo_set_L26]
      exact ⟨_, _, _, _, _, rfl, rfl, rfl, rfl⟩
    · simp (disch := omega) only [n_lt, n_le, n_eq, n_cl, n_sub, nI_add, pk_mul, n_subL, n_Lsub, n_neN, n_Nne, n_leN, n_ltN, n_Nlt, n_Nle, le_T, le_F, lt_T, lt_F, eq_T, eq_F, true_or, or_true, false_or, or_false, true_and, and_true, false_and, and_false, and_self, or_self, not_true_eq_false, not_false_eq_true, decide_eq_true_eq, decide_true, decide_false, Bool.false_eq_true, Bool.true_eq_false, eq_self, ↓reduceIte, Option.bind_some, mo_in, lit_0, lit_1, lit_2, lit_3, lit_4, lit_5, lit_6, lit_7, lit_8, lit_9, lit_10, lit_11, lit_12, lit_13, lit_14, lit_15, lit_16, lit_20, lit_22, lit_24, lit_28, lit_30, lit_31, lit_32, lit_39, lit_40, lit_42, lit_48, lit_50, lit_57, lit_60, lit_61, lit_62, lit_63, lit_64, lit_100, lit_120, lit_121, lit_122, lit_128, lit_130, lit_255, lit_256, lit_360, lit_1024, lit_2147483647, f_OL_set, f_OL_set_L24, f_OL_set_L50, f_Mo_set, f_Mo_set_L26]
      exact ⟨_, _, _, _, _, rfl, rfl, rfl, rfl⟩
  by_cases h1 : i = 1
  · by_cases hv : j ≤ 1
    · simp (disch := omega) only [n_lt, n_le, n_eq, n_cl, n_sub, nI_add, pk_mul, n_subL, n_Lsub, n_neN, n_Nne, n_leN, n_ltN, n_Nlt, n_Nle, le_T, le_F, lt_T, lt_F, eq_T, eq_F, true_or, or_true, false_or, or_false, true_and, and_true, false_and, and_false, and_self, or_self, not_true_eq_false, not_false_eq_true, decide_eq_true_eq, decide_true, decide_false, Bool.false_eq_true, Bool.true_eq_false, eq_self, ↓reduceIte, Option.bind_some, mo_in, lit_0, lit_1, lit_2, lit_3, lit_4, lit_5, lit_6, lit_7, lit_8, lit_9, lit_10, lit_11, lit_12, lit_13, lit_14, lit_15, lit_16, lit_20, lit_22, lit_24, lit_28, lit_30, lit_31, lit_32, lit_39, lit_40, lit_42, lit_48, lit_50, lit_57, lit_60, lit_61, lit_62, lit_63, lit_64, lit_100, lit_120, lit_121, lit_122, lit_128, lit_130, lit_255, lit_256, lit_360, lit_1024, lit_2147483647, f_OL_set, f_OL_set_L24, f_OL_set_L50, f_Mo_set, f_Mo_set_L26]
      exact ⟨_, _, _, _, _, rfl, rfl, rfl, rfl⟩
    · simp (disch := omega) only [n_lt, n_le, n_eq, n_cl, n_sub, nI_add, pk_mul, n_subL, n_Lsub, n_neN, n_Nne, n_leN, n_ltN, n_Nlt, n_Nle, le_T, le_F, lt_T, lt_F, eq_T, eq_F, true_or, or_true, false_or, or_false, true_and, and_true, false_and, and_false, and_self, or_self, not_true_eq_false, not_false_eq_true, decide_eq_true_eq, decide_true, decide_false, Bool.false_eq_true, Bool.true_eq_false, eq_self, ↓reduceIte, Option.bind_some, mo_in, lit_0, lit_1, lit_2, lit_3, lit_4, lit_5, lit_6, lit_7, lit_8, lit_9, lit_10, lit_11, lit_12, lit_13, lit_14, lit_15, lit_16, lit_20, lit_22, lit_24, lit_28, lit_30, lit_31, lit_32, lit_39, lit_40, lit_42, lit_48, lit_50, lit_57, lit_60, lit_61, lit_62, lit_63, lit_64, lit_100, lit_120, lit_121, lit_122, lit_128, lit_130, lit_255, lit_256, lit_360, lit_1024, lit_2147483647, f_OL_set, f_OL_set_L24, f_OL_set_L50, f_Mo_set, f_Mo_set_L26]
      exact ⟨_, _, _, _, _, rfl, rfl, rfl, rfl⟩
  simp (disch := omega) only [n_lt, n_le, n_eq, n_cl, n_sub, nI_add, pk_mul, n_subL, n_Lsub, n_neN, n_Nne, n_leN, n_ltN, n_Nlt, n_Nle, le_T, le_F, lt_T, lt_F, eq_T, eq_F, true_or, or_true, false_or, or_false, true_and, and_true, false_and, and_false, and_self, or_self, not_true_eq_false, not_false_eq_true, decide_eq_true_eq, decide_true, decide_false, Bool.false_eq_true, Bool.true_eq_false, eq_self, ↓reduceIte, Option.bind_some, mo_in, lit_0, lit_1, lit_2, lit_3, lit_4, lit_5, lit_6, lit_7, lit_8, lit_9, lit_10, lit_11, lit_12, lit_13, lit_14, lit_15, lit_16, lit_20, lit_22, lit_24, lit_28, lit_30, lit_31, lit_32, lit_39, lit_40, lit_42, lit_48, lit_50, lit_57, lit_60, lit_61, lit_62, lit_63, lit_64, lit_100, lit_120, lit_121, lit_122, lit_128, lit_130, lit_255, lit_256, lit_360, lit_1024, lit_2147483647, f_OL_set, f_OL_set_L24, f_OL_set_L50, f_Mo_set, f_Mo_set_L26]
  exact ⟨_, _, _, _, _, rfl, rfl, rfl, rfl⟩
