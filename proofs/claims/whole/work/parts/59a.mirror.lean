/-! PURE: the mirror way; lamps of several states -/
theorem litL_1 : (1 : Int64) = lN 1 := rfl
theorem litL_2 : (2 : Int64) = lN 2 := rfl
theorem litL_62 : (4611686018427387904 : Int64) = lN 4611686018427387904 := rfl
theorem lN_sshr {n k : Nat} (h : n < 9223372036854775808) (hk : k < 64) : lN n >>> (lN k &&& 63) = lN (n / 2 ^ k) := by
  apply Int64.toInt_inj.mp
  have h0 := p_sh k hk
  rw [nI_l (by omega)] at h0
  have h1 : (lN n >>> (lN k &&& 63)).toInt = (lN n).toInt >>> k := by
    show ((lN n).toBitVec.sshiftRight ((lN k &&& 63).toBitVec.smod 64).toNat).toInt = _
    rw [h0, BitVec.toInt_sshiftRight, BitVec.toNat_ofNat, Nat.mod_eq_of_lt (by omega)]
    rfl
  have h2 : n / 2 ^ k ≤ n := Nat.div_le_self _ _
  rw [h1, pk_lT h, pk_lT (by omega), Int.shiftRight_eq_div_pow]
  rfl
theorem lN_and1 {n : Nat} (h : n < 9223372036854775808) : lN n &&& lN 1 = lN (n % 2) := by
  apply Int64.toBitVec_inj.mp
  apply BitVec.eq_of_toNat_eq
  rw [Int64.toBitVec_and, BitVec.toNat_and]
  show (BitVec.ofInt 64 n).toNat &&& (BitVec.ofInt 64 (1 : Nat)).toNat = (BitVec.ofInt 64 (n % 2 : Nat)).toNat
  rw [BitVec.ofInt_natCast, BitVec.ofInt_natCast, BitVec.ofInt_natCast, BitVec.toNat_ofNat, BitVec.toNat_ofNat, BitVec.toNat_ofNat, Nat.mod_eq_of_lt (a := n) (by omega), Nat.mod_eq_of_lt (a := n % 2) (by omega)]
  exact Nat.and_one_is_mod n
theorem lN_eqP {a b : Nat} (ha : a < 9223372036854775808) (hb : b < 9223372036854775808) : (lN a = lN b) = (a = b) := propext (pk_lEQ ha hb)
/-- a night is below 0, in reach, or beyond it -/
theorem far_cases (x : Int64) : ((lg_cmp x (lN 0) < nI 0) = True) ∨ ∃ k : Nat, k < 9223372036854775808 ∧ x = lN k := by
  by_cases h : x < 0
  · exact Or.inl (eq_true ((lg_cmp_lt _ _).mpr h))
  · obtain ⟨k, hk, e⟩ := pk_lOf h
    exact Or.inr ⟨k, hk, e⟩
theorem far_div {k : Nat} : (k / 2 ^ 62 = 0) = (k < 4611686018427387904) := by
  apply propext
  omega
theorem night_all : ∀ (e j fu : Nat) (v : Int64), j + e = 6 → e < fu → ∃ r, f_OL_nightOf_L5 fu v (nI (2 ^ j)) = some r ∧ f_Mo_nightOf_L5 fu v (nI (2 ^ j)) = some r := by
  intro e
  induction e with
  | zero =>
    intro j fu v hj hfu
    obtain ⟨n, rfl⟩ : ∃ n, fu = n + 1 := ⟨fu - 1, by omega⟩
    obtain rfl : j = 6 := by omega
    refine ⟨v, ?_, ?_⟩
    · rw [f_OL_nightOf_L5, if_pos (by decide)]
    · rw [f_Mo_nightOf_L5, if_pos (by decide)]
  | succ e ih =>
    intro j fu v hj hfu
    obtain ⟨n, rfl⟩ : ∃ n, fu = n + 1 := ⟨fu - 1, by omega⟩
    have h2 : 2 ^ j ≤ 2 ^ 5 := Nat.pow_le_pow_right (by decide) (by omega)
    obtain ⟨r, q1, q2⟩ := ih (j + 1) n (v ^^^ (v >>> (Int32.toInt64 (nI (2 ^ j)) &&& 63))) (by omega) (by omega)
    have h3 : ¬ (64 : Int32) ≤ nI (2 ^ j) := by
      show ¬ nI 64 ≤ nI (2 ^ j)
      rw [n_le (by omega) (by omega)]
      omega
    have h4 : nI (2 ^ j) * (2 : Int32) = nI (2 ^ (j + 1)) := by
      show nI (2 ^ j) * nI 2 = nI (2 ^ (j + 1))
      rw [pk_mul, Nat.pow_succ]
    refine ⟨r, ?_, ?_⟩
    · rw [f_OL_nightOf_L5, if_neg h3, h4]; exact q1
    · rw [f_Mo_nightOf_L5, if_neg h3, h4]; exact q2
theorem lamp_none : ∀ (e l fu : Nat), l + e = 62 → e < fu → f_OL_lampOf_L2 fu (lN 0) (nI l) = some (-nI 2) := by
  intro e
  induction e with
  | zero =>
    intro l fu hj hfu
    obtain ⟨n, rfl⟩ : ∃ n, fu = n + 1 := ⟨fu - 1, by omega⟩
    obtain rfl : l = 62 := by omega
    rw [f_OL_lampOf_L2, if_pos (by decide)]
    rfl
  | succ e ih =>
    intro l fu hj hfu
    obtain ⟨n, rfl⟩ : ∃ n, fu = n + 1 := ⟨fu - 1, by omega⟩
    rw [f_OL_lampOf_L2]
    simp (disch := omega) only [n_lt, n_le, n_eq, n_cl, n_sub, nI_add, pk_mul, n_subL, n_Lsub, n_neN, n_Nne, n_leN, n_ltN, n_Nlt, n_Nle, le_T, le_F, lt_T, lt_F, eq_T, eq_F, true_or, or_true, false_or, or_false, true_and, and_true, false_and, and_false, and_self, or_self, not_true_eq_false, not_false_eq_true, decide_eq_true_eq, decide_true, decide_false, Bool.false_eq_true, Bool.true_eq_false, eq_self, ↓reduceIte, Option.bind_some, mo_in, lit_0, lit_1, lit_2, lit_3, lit_4, lit_5, lit_6, lit_7, lit_8, lit_9, lit_10, lit_11, lit_12, lit_13, lit_14, lit_15, lit_16, lit_20, lit_22, lit_24, lit_28, lit_30, lit_31, lit_32, lit_39, lit_40, lit_42, lit_48, lit_50, lit_57, lit_60, lit_61, lit_62, lit_63, lit_64, lit_100, lit_120, lit_121, lit_122, lit_128, lit_130, lit_255, lit_256, lit_360, lit_1024, lit_2147483647, nI_l, litL_1, lN_sshr, lN_and1, Nat.zero_div, Nat.zero_mod, lgN_eq]
    exact ih (l + 1) n (by omega) (by omega)
theorem lamp_all {k : Nat} (hk : k < 2 ^ 62) : ∀ (e l fu fu' : Nat), l + e = 62 → e < fu → e < fu' → 0 < k / 2 ^ l → ∃ r : Nat, r < 62 ∧ f_OL_lampOf_L2 fu (lN k) (nI l) = some (nI r) ∧ f_Mo_lampOf_L5 fu' (lN l) (lN (k / 2 ^ l)) = some (lN r) := by
  intro e
  induction e with
  | zero =>
    intro l fu fu' hj hfu hfu' h0
    obtain rfl : l = 62 := by omega
    rw [Nat.div_eq_of_lt hk] at h0
    omega
  | succ e ih =>
    intro l fu fu' hj hfu hfu' h0
    obtain ⟨n, rfl⟩ : ∃ n, fu = n + 1 := ⟨fu - 1, by omega⟩
    obtain ⟨m, rfl⟩ : ∃ m, fu' = m + 1 := ⟨fu' - 1, by omega⟩
    have hle : k / 2 ^ l ≤ k := Nat.div_le_self _ _
    have e1 : k / 2 ^ l / 2 = k / 2 ^ (l + 1) := by rw [Nat.div_div_eq_div_mul, Nat.pow_succ]
    have e2 : lN (k / 2 ^ l) - lN (k / 2 ^ l) / lN 2 * lN 2 = lN (k / 2 ^ l % 2) := pk_lRem (by omega) (by omega) (by omega)
    have e3 : lN (k / 2 ^ l) / lN 2 = lN (k / 2 ^ (l + 1)) := by rw [pk_lDiv (by omega) (by omega) (by omega), e1]
    have e4 : lN (k / 2 ^ l) - lN (k / 2 ^ (l + 1)) * lN 2 = lN (k / 2 ^ l % 2) := by rw [← e3]; exact e2
    by_cases h : k / 2 ^ l % 2 = 1
    · refine ⟨l, by omega, ?_, ?_⟩
      · rw [f_OL_lampOf_L2]
        simp (disch := omega) only [n_lt, n_le, n_eq, n_cl, n_sub, nI_add, pk_mul, n_subL, n_Lsub, n_neN, n_Nne, n_leN, n_ltN, n_Nlt, n_Nle, le_T, le_F, lt_T, lt_F, eq_T, eq_F, true_or, or_true, false_or, or_false, true_and, and_true, false_and, and_false, and_self, or_self, not_true_eq_false, not_false_eq_true, decide_eq_true_eq, decide_true, decide_false, Bool.false_eq_true, Bool.true_eq_false, eq_self, ↓reduceIte, Option.bind_some, mo_in, lit_0, lit_1, lit_2, lit_3, lit_4, lit_5, lit_6, lit_7, lit_8, lit_9, lit_10, lit_11, lit_12, lit_13, lit_14, lit_15, lit_16, lit_20, lit_22, lit_24, lit_28, lit_30, lit_31, lit_32, lit_39, lit_40, lit_42, lit_48, lit_50, lit_57, lit_60, lit_61, lit_62, lit_63, lit_64, lit_100, lit_120, lit_121, lit_122, lit_128, lit_130, lit_255, lit_256, lit_360, lit_1024, lit_2147483647, nI_l, litL_1, lN_sshr, lN_and1, lgN_eq]
      · rw [f_Mo_lampOf_L5]
        simp (disch := omega) only [n_lt, n_le, n_eq, n_cl, n_sub, nI_add, pk_mul, n_subL, n_Lsub, n_neN, n_Nne, n_leN, n_ltN, n_Nlt, n_Nle, le_T, le_F, lt_T, lt_F, eq_T, eq_F, true_or, or_true, false_or, or_false, true_and, and_true, false_and, and_false, and_self, or_self, not_true_eq_false, not_false_eq_true, decide_eq_true_eq, decide_true, decide_false, Bool.false_eq_true, Bool.true_eq_false, eq_self, ↓reduceIte, Option.bind_some, mo_in, lit_0, lit_1, lit_2, lit_3, lit_4, lit_5, lit_6, lit_7, lit_8, lit_9, lit_10, lit_11, lit_12, lit_13, lit_14, lit_15, lit_16, lit_20, lit_22, lit_24, lit_28, lit_30, lit_31, lit_32, lit_39, lit_40, lit_42, lit_48, lit_50, lit_57, lit_60, lit_61, lit_62, lit_63, lit_64, lit_100, lit_120, lit_121, lit_122, lit_128, lit_130, lit_255, lit_256, lit_360, lit_1024, lit_2147483647, litL_0, litL_2, e2, lgN_eq]
    · obtain ⟨r, hr, q1, q2⟩ := ih (l + 1) n m (by omega) (by omega) (by omega) (by rw [← e1]; omega)
      refine ⟨r, hr, ?_, ?_⟩
      · rw [f_OL_lampOf_L2]
        simp (disch := omega) only [n_lt, n_le, n_eq, n_cl, n_sub, nI_add, pk_mul, n_subL, n_Lsub, n_neN, n_Nne, n_leN, n_ltN, n_Nlt, n_Nle, le_T, le_F, lt_T, lt_F, eq_T, eq_F, true_or, or_true, false_or, or_false, true_and, and_true, false_and, and_false, and_self, or_self, not_true_eq_false, not_false_eq_true, decide_eq_true_eq, decide_true, decide_false, Bool.false_eq_true, Bool.true_eq_false, eq_self, ↓reduceIte, Option.bind_some, mo_in, lit_0, lit_1, lit_2, lit_3, lit_4, lit_5, lit_6, lit_7, lit_8, lit_9, lit_10, lit_11, lit_12, lit_13, lit_14, lit_15, lit_16, lit_20, lit_22, lit_24, lit_28, lit_30, lit_31, lit_32, lit_39, lit_40, lit_42, lit_48, lit_50, lit_57, lit_60, lit_61, lit_62, lit_63, lit_64, lit_100, lit_120, lit_121, lit_122, lit_128, lit_130, lit_255, lit_256, lit_360, lit_1024, lit_2147483647, nI_l, litL_1, lN_sshr, lN_and1, lgN_eq]
        exact q1
      · rw [f_Mo_lampOf_L5]
        simp (disch := omega) only [n_lt, n_le, n_eq, n_cl, n_sub, nI_add, pk_mul, n_subL, n_Lsub, n_neN, n_Nne, n_leN, n_ltN, n_Nlt, n_Nle, le_T, le_F, lt_T, lt_F, eq_T, eq_F, true_or, or_true, false_or, or_false, true_and, and_true, false_and, and_false, and_self, or_self, not_true_eq_false, not_false_eq_true, decide_eq_true_eq, decide_true, decide_false, Bool.false_eq_true, Bool.true_eq_false, eq_self, ↓reduceIte, Option.bind_some, mo_in, lit_0, lit_1, lit_2, lit_3, lit_4, lit_5, lit_6, lit_7, lit_8, lit_9, lit_10, lit_11, lit_12, lit_13, lit_14, lit_15, lit_16, lit_20, lit_22, lit_24, lit_28, lit_30, lit_31, lit_32, lit_39, lit_40, lit_42, lit_48, lit_50, lit_57, lit_60, lit_61, lit_62, lit_63, lit_64, lit_100, lit_120, lit_121, lit_122, lit_128, lit_130, lit_255, lit_256, lit_360, lit_1024, lit_2147483647, litL_0, litL_1, litL_2, e2, e3, e4, lN_add, lgN_eq]
        exact q2
theorem ok_mirror {t : Nat}  (ht : t < 64) (p1 : Int64) (p2 : Int32)  : ∃ (r : Int64), f_OL_mirror p1 p2 = some r ∧ f_Mo_mirror p1 p2 = some r := by
  rcases far_cases p1 with a | ⟨k, hk, rfl⟩
  · simp (disch := omega) only [n_lt, n_le, n_eq, n_cl, n_sub, nI_add, pk_mul, n_subL, n_Lsub, n_neN, n_Nne, n_leN, n_ltN, n_Nlt, n_Nle, le_T, le_F, lt_T, lt_F, eq_T, eq_F, true_or, or_true, false_or, or_false, true_and, and_true, false_and, and_false, and_self, or_self, not_true_eq_false, not_false_eq_true, decide_eq_true_eq, decide_true, decide_false, Bool.false_eq_true, Bool.true_eq_false, eq_self, ↓reduceIte, Option.bind_some, mo_in, lit_0, lit_1, lit_2, lit_3, lit_4, lit_5, lit_6, lit_7, lit_8, lit_9, lit_10, lit_11, lit_12, lit_13, lit_14, lit_15, lit_16, lit_20, lit_22, lit_24, lit_28, lit_30, lit_31, lit_32, lit_39, lit_40, lit_42, lit_48, lit_50, lit_57, lit_60, lit_61, lit_62, lit_63, lit_64, lit_100, lit_120, lit_121, lit_122, lit_128, lit_130, lit_255, lit_256, lit_360, lit_1024, lit_2147483647, f_OL_mirror, f_Mo_mirror, f_Mo_isFar, litL_0, a]
    first | exact ⟨_, rfl, rfl⟩ | exact ⟨_, rfl⟩
  by_cases hk62 : k < 4611686018427387904
  rotate_left
  · simp (disch := omega) only [n_lt, n_le, n_eq, n_cl, n_sub, nI_add, pk_mul, n_subL, n_Lsub, n_neN, n_Nne, n_leN, n_ltN, n_Nlt, n_Nle, le_T, le_F, lt_T, lt_F, eq_T, eq_F, true_or, or_true, false_or, or_false, true_and, and_true, false_and, and_false, and_self, or_self, not_true_eq_false, not_false_eq_true, decide_eq_true_eq, decide_true, decide_false, Bool.false_eq_true, Bool.true_eq_false, eq_self, ↓reduceIte, Option.bind_some, mo_in, lit_0, lit_1, lit_2, lit_3, lit_4, lit_5, lit_6, lit_7, lit_8, lit_9, lit_10, lit_11, lit_12, lit_13, lit_14, lit_15, lit_16, lit_20, lit_22, lit_24, lit_28, lit_30, lit_31, lit_32, lit_39, lit_40, lit_42, lit_48, lit_50, lit_57, lit_60, lit_61, lit_62, lit_63, lit_64, lit_100, lit_120, lit_121, lit_122, lit_128, lit_130, lit_255, lit_256, lit_360, lit_1024, lit_2147483647, f_OL_mirror, f_Mo_mirror, f_Mo_isFar, litL_0, litL_62, nI_l, lN_sshr, lgN_lt, lgN_eq]
    first | exact ⟨_, rfl, rfl⟩ | exact ⟨_, rfl⟩
  rcases n_cases p2 with b | ⟨w, hw, rfl⟩
  · simp (disch := omega) only [n_lt, n_le, n_eq, n_cl, n_sub, nI_add, pk_mul, n_subL, n_Lsub, n_neN, n_Nne, n_leN, n_ltN, n_Nlt, n_Nle, le_T, le_F, lt_T, lt_F, eq_T, eq_F, true_or, or_true, false_or, or_false, true_and, and_true, false_and, and_false, and_self, or_self, not_true_eq_false, not_false_eq_true, decide_eq_true_eq, decide_true, decide_false, Bool.false_eq_true, Bool.true_eq_false, eq_self, ↓reduceIte, Option.bind_some, mo_in, lit_0, lit_1, lit_2, lit_3, lit_4, lit_5, lit_6, lit_7, lit_8, lit_9, lit_10, lit_11, lit_12, lit_13, lit_14, lit_15, lit_16, lit_20, lit_22, lit_24, lit_28, lit_30, lit_31, lit_32, lit_39, lit_40, lit_42, lit_48, lit_50, lit_57, lit_60, lit_61, lit_62, lit_63, lit_64, lit_100, lit_120, lit_121, lit_122, lit_128, lit_130, lit_255, lit_256, lit_360, lit_1024, lit_2147483647, f_OL_mirror, f_Mo_mirror, f_Mo_isFar, litL_0, litL_62, nI_l, lN_sshr, lgN_lt, lgN_eq, m_lt b, m_le b, m_gt b, m_ge b, m_eq b]
    first | exact ⟨_, rfl, rfl⟩ | exact ⟨_, rfl⟩
  by_cases h0 : w = 0
  · simp (disch := omega) only [n_lt, n_le, n_eq, n_cl, n_sub, nI_add, pk_mul, n_subL, n_Lsub, n_neN, n_Nne, n_leN, n_ltN, n_Nlt, n_Nle, le_T, le_F, lt_T, lt_F, eq_T, eq_F, true_or, or_true, false_or, or_false, true_and, and_true, false_and, and_false, and_self, or_self, not_true_eq_false, not_false_eq_true, decide_eq_true_eq, decide_true, decide_false, Bool.false_eq_true, Bool.true_eq_false, eq_self, ↓reduceIte, Option.bind_some, mo_in, lit_0, lit_1, lit_2, lit_3, lit_4, lit_5, lit_6, lit_7, lit_8, lit_9, lit_10, lit_11, lit_12, lit_13, lit_14, lit_15, lit_16, lit_20, lit_22, lit_24, lit_28, lit_30, lit_31, lit_32, lit_39, lit_40, lit_42, lit_48, lit_50, lit_57, lit_60, lit_61, lit_62, lit_63, lit_64, lit_100, lit_120, lit_121, lit_122, lit_128, lit_130, lit_255, lit_256, lit_360, lit_1024, lit_2147483647, f_OL_mirror, f_Mo_mirror, f_Mo_isFar, litL_0, litL_62, nI_l, lN_sshr, lgN_lt, lgN_eq]
    first | exact ⟨_, rfl, rfl⟩ | exact ⟨_, rfl⟩
  by_cases h1 : w = 1
  · obtain ⟨r, q1, q2⟩ := night_all 6 0 3000 (lN k) (by omega) (by omega)
    have q1' : f_OL_nightOf (lN k) = some r := q1
    have q2' : f_Mo_nightOf (lN k) = some r := q2
    simp (disch := omega) only [n_lt, n_le, n_eq, n_cl, n_sub, nI_add, pk_mul, n_subL, n_Lsub, n_neN, n_Nne, n_leN, n_ltN, n_Nlt, n_Nle, le_T, le_F, lt_T, lt_F, eq_T, eq_F, true_or, or_true, false_or, or_false, true_and, and_true, false_and, and_false, and_self, or_self, not_true_eq_false, not_false_eq_true, decide_eq_true_eq, decide_true, decide_false, Bool.false_eq_true, Bool.true_eq_false, eq_self, ↓reduceIte, Option.bind_some, mo_in, lit_0, lit_1, lit_2, lit_3, lit_4, lit_5, lit_6, lit_7, lit_8, lit_9, lit_10, lit_11, lit_12, lit_13, lit_14, lit_15, lit_16, lit_20, lit_22, lit_24, lit_28, lit_30, lit_31, lit_32, lit_39, lit_40, lit_42, lit_48, lit_50, lit_57, lit_60, lit_61, lit_62, lit_63, lit_64, lit_100, lit_120, lit_121, lit_122, lit_128, lit_130, lit_255, lit_256, lit_360, lit_1024, lit_2147483647, f_OL_mirror, f_Mo_mirror, f_Mo_isFar, litL_0, litL_62, nI_l, lN_sshr, lgN_lt, lgN_eq, q1', q2']
    first | exact ⟨_, rfl, rfl⟩ | exact ⟨_, rfl⟩
  by_cases h2 : w = 2
  · by_cases hk0 : k = 0
    · subst hk0
      have q1 : f_OL_lampOf (lN 0) = some (-nI 2) := lamp_none 62 0 3000 (by omega) (by omega)
      refine ⟨-2, ?_, ?_⟩
      · simp (disch := omega) only [n_lt, n_le, n_eq, n_cl, n_sub, nI_add, pk_mul, n_subL, n_Lsub, n_neN, n_Nne, n_leN, n_ltN, n_Nlt, n_Nle, le_T, le_F, lt_T, lt_F, eq_T, eq_F, true_or, or_true, false_or, or_false, true_and, and_true, false_and, and_false, and_self, or_self, not_true_eq_false, not_false_eq_true, decide_eq_true_eq, decide_true, decide_false, Bool.false_eq_true, Bool.true_eq_false, eq_self, ↓reduceIte, Option.bind_some, mo_in, lit_0, lit_1, lit_2, lit_3, lit_4, lit_5, lit_6, lit_7, lit_8, lit_9, lit_10, lit_11, lit_12, lit_13, lit_14, lit_15, lit_16, lit_20, lit_22, lit_24, lit_28, lit_30, lit_31, lit_32, lit_39, lit_40, lit_42, lit_48, lit_50, lit_57, lit_60, lit_61, lit_62, lit_63, lit_64, lit_100, lit_120, lit_121, lit_122, lit_128, lit_130, lit_255, lit_256, lit_360, lit_1024, lit_2147483647, f_OL_mirror, litL_0, litL_62, lgN_lt, q1]
        decide
      · simp (disch := omega) only [n_lt, n_le, n_eq, n_cl, n_sub, nI_add, pk_mul, n_subL, n_Lsub, n_neN, n_Nne, n_leN, n_ltN, n_Nlt, n_Nle, le_T, le_F, lt_T, lt_F, eq_T, eq_F, true_or, or_true, false_or, or_false, true_and, and_true, false_and, and_false, and_self, or_self, not_true_eq_false, not_false_eq_true, decide_eq_true_eq, decide_true, decide_false, Bool.false_eq_true, Bool.true_eq_false, eq_self, ↓reduceIte, Option.bind_some, mo_in, lit_0, lit_1, lit_2, lit_3, lit_4, lit_5, lit_6, lit_7, lit_8, lit_9, lit_10, lit_11, lit_12, lit_13, lit_14, lit_15, lit_16, lit_20, lit_22, lit_24, lit_28, lit_30, lit_31, lit_32, lit_39, lit_40, lit_42, lit_48, lit_50, lit_57, lit_60, lit_61, lit_62, lit_63, lit_64, lit_100, lit_120, lit_121, lit_122, lit_128, lit_130, lit_255, lit_256, lit_360, lit_1024, lit_2147483647, f_Mo_mirror, f_Mo_isFar, litL_0, nI_l, lN_sshr, lgN_lt, lgN_eq]
    · obtain ⟨r, hr, q1, q2⟩ := lamp_all (k := k) (by omega) 62 0 3000 3000 (by omega) (by omega) (by omega) (by simp; omega)
      have q1' : f_OL_lampOf (lN k) = some (nI r) := q1
      have q2' : f_Mo_lampOf (lN k) = some (lN r) := by
        rw [show k / 2 ^ 0 = k from Nat.div_one k] at q2
        exact q2
      simp (disch := omega) only [n_lt, n_le, n_eq, n_cl, n_sub, nI_add, pk_mul, n_subL, n_Lsub, n_neN, n_Nne, n_leN, n_ltN, n_Nlt, n_Nle, le_T, le_F, lt_T, lt_F, eq_T, eq_F, true_or, or_true, false_or, or_false, true_and, and_true, false_and, and_false, and_self, or_self, not_true_eq_false, not_false_eq_true, decide_eq_true_eq, decide_true, decide_false, Bool.false_eq_true, Bool.true_eq_false, eq_self, ↓reduceIte, Option.bind_some, mo_in, lit_0, lit_1, lit_2, lit_3, lit_4, lit_5, lit_6, lit_7, lit_8, lit_9, lit_10, lit_11, lit_12, lit_13, lit_14, lit_15, lit_16, lit_20, lit_22, lit_24, lit_28, lit_30, lit_31, lit_32, lit_39, lit_40, lit_42, lit_48, lit_50, lit_57, lit_60, lit_61, lit_62, lit_63, lit_64, lit_100, lit_120, lit_121, lit_122, lit_128, lit_130, lit_255, lit_256, lit_360, lit_1024, lit_2147483647, f_OL_mirror, f_Mo_mirror, f_Mo_isFar, litL_0, litL_62, nI_l, lN_sshr, lgN_lt, lgN_eq, q1', q2']
      first | exact ⟨_, rfl, rfl⟩ | exact ⟨_, rfl⟩
  simp (disch := omega) only [n_lt, n_le, n_eq, n_cl, n_sub, nI_add, pk_mul, n_subL, n_Lsub, n_neN, n_Nne, n_leN, n_ltN, n_Nlt, n_Nle, le_T, le_F, lt_T, lt_F, eq_T, eq_F, true_or, or_true, false_or, or_false, true_and, and_true, false_and, and_false, and_self, or_self, not_true_eq_false, not_false_eq_true, decide_eq_true_eq, decide_true, decide_false, Bool.false_eq_true, Bool.true_eq_false, eq_self, ↓reduceIte, Option.bind_some, mo_in, lit_0, lit_1, lit_2, lit_3, lit_4, lit_5, lit_6, lit_7, lit_8, lit_9, lit_10, lit_11, lit_12, lit_13, lit_14, lit_15, lit_16, lit_20, lit_22, lit_24, lit_28, lit_30, lit_31, lit_32, lit_39, lit_40, lit_42, lit_48, lit_50, lit_57, lit_60, lit_61, lit_62, lit_63, lit_64, lit_100, lit_120, lit_121, lit_122, lit_128, lit_130, lit_255, lit_256, lit_360, lit_1024, lit_2147483647, f_OL_mirror, f_Mo_mirror, f_Mo_isFar, litL_0, litL_62, nI_l, lN_sshr, lgN_lt, lgN_eq]
  first | exact ⟨_, rfl, rfl⟩ | exact ⟨_, rfl⟩
theorem neg_div100 {x : Int32} (h : x < 0) : (x / nI 100 < nI 2) = True := by
  apply eq_true
  have h1 := Int32.lt_iff_toInt_lt.mp h
  rw [show (0 : Int32).toInt = 0 from rfl] at h1
  have h2 := Int32.le_toInt x
  rw [Int32.lt_iff_toInt_lt, Int32.toInt_div, nI_toInt (by omega), nI_toInt (by omega)]
  obtain ⟨n, hn⟩ : ∃ n : Nat, x.toInt = -(n : Int) := ⟨x.toInt.natAbs, by omega⟩
  rw [hn, Int.neg_tdiv, show ((100 : Nat) : Int) = ((100 : Nat) : Int) from rfl, ← Int.ofNat_tdiv, Int.bmod_eq_of_le (by omega) (by omega)]
  omega
theorem sev_all {st la : Nat} (h2 : 2 ≤ st) (h9 : st ≤ 9) (hla : la ≤ 30) : ∀ (e fu fu' : Nat) (v : Int64), e ≤ la → e < fu → e < fu' → ∃ r, f_OL_several_L59 fu (nI st) (nI la) v (nI (la - e)) = some r ∧ f_Mo_several_L50 fu' (nI st) v (nI e) = some r := by
  intro e
  induction e with
  | zero =>
    intro fu fu' v he hfu hfu'
    obtain ⟨n, rfl⟩ : ∃ n, fu = n + 1 := ⟨fu - 1, by omega⟩
    obtain ⟨m, rfl⟩ : ∃ m, fu' = m + 1 := ⟨fu' - 1, by omega⟩
    rw [f_OL_several_L59, f_Mo_several_L50]
    have i0 : (0 : Int64) = lN 0 := rfl
    simp (disch := omega) only [n_lt, n_le, n_eq, n_cl, n_sub, nI_add, pk_mul, n_subL, n_Lsub, n_neN, n_Nne, n_leN, n_ltN, n_Nlt, n_Nle, le_T, le_F, lt_T, lt_F, eq_T, eq_F, true_or, or_true, false_or, or_false, true_and, and_true, false_and, and_false, and_self, or_self, not_true_eq_false, not_false_eq_true, decide_eq_true_eq, decide_true, decide_false, Bool.false_eq_true, Bool.true_eq_false, eq_self, ↓reduceIte, Option.bind_some, mo_in, lit_0, lit_1, lit_2, lit_3, lit_4, lit_5, lit_6, lit_7, lit_8, lit_9, lit_10, lit_11, lit_12, lit_13, lit_14, lit_15, lit_16, lit_20, lit_22, lit_24, lit_28, lit_30, lit_31, lit_32, lit_39, lit_40, lit_42, lit_48, lit_50, lit_57, lit_60, lit_61, lit_62, lit_63, lit_64, lit_100, lit_120, lit_121, lit_122, lit_128, lit_130, lit_255, lit_256, lit_360, lit_1024, lit_2147483647, nI_l, i0, lN_eqP]
    generalize (v - v / lN (2 * st) * lN (2 * st)).toInt32 = z
    by_cases hz : nI st ≤ z
    · simp only [hz, if_true]
      first | exact ⟨_, rfl, rfl⟩ | exact ⟨_, rfl⟩
    · simp only [hz, if_false]
      first | exact ⟨_, rfl, rfl⟩ | exact ⟨_, rfl⟩
  | succ e ih =>
    intro fu fu' v he hfu hfu'
    obtain ⟨n, rfl⟩ : ∃ n, fu = n + 1 := ⟨fu - 1, by omega⟩
    obtain ⟨m, rfl⟩ : ∃ m, fu' = m + 1 := ⟨fu' - 1, by omega⟩
    obtain ⟨r, q1, q2⟩ := ih n m (v / lN st) (by omega) (by omega) (by omega)
    have i0 : (0 : Int64) = lN 0 := rfl
    refine ⟨r, ?_, ?_⟩
    · rw [f_OL_several_L59]
      simp (disch := omega) only [n_lt, n_le, n_eq, n_cl, n_sub, nI_add, pk_mul, n_subL, n_Lsub, n_neN, n_Nne, n_leN, n_ltN, n_Nlt, n_Nle, le_T, le_F, lt_T, lt_F, eq_T, eq_F, true_or, or_true, false_or, or_false, true_and, and_true, false_and, and_false, and_self, or_self, not_true_eq_false, not_false_eq_true, decide_eq_true_eq, decide_true, decide_false, Bool.false_eq_true, Bool.true_eq_false, eq_self, ↓reduceIte, Option.bind_some, mo_in, lit_0, lit_1, lit_2, lit_3, lit_4, lit_5, lit_6, lit_7, lit_8, lit_9, lit_10, lit_11, lit_12, lit_13, lit_14, lit_15, lit_16, lit_20, lit_22, lit_24, lit_28, lit_30, lit_31, lit_32, lit_39, lit_40, lit_42, lit_48, lit_50, lit_57, lit_60, lit_61, lit_62, lit_63, lit_64, lit_100, lit_120, lit_121, lit_122, lit_128, lit_130, lit_255, lit_256, lit_360, lit_1024, lit_2147483647, nI_l, i0, lN_eqP, show la - (e + 1) + 1 = la - e by omega, q1]
    · rw [f_Mo_several_L50, pk_m1]
      simp (disch := omega) only [n_lt, n_le, n_eq, n_cl, n_sub, nI_add, pk_mul, n_subL, n_Lsub, n_neN, n_Nne, n_leN, n_ltN, n_Nlt, n_Nle, le_T, le_F, lt_T, lt_F, eq_T, eq_F, true_or, or_true, false_or, or_false, true_and, and_true, false_and, and_false, and_self, or_self, not_true_eq_false, not_false_eq_true, decide_eq_true_eq, decide_true, decide_false, Bool.false_eq_true, Bool.true_eq_false, eq_self, ↓reduceIte, Option.bind_some, mo_in, lit_0, lit_1, lit_2, lit_3, lit_4, lit_5, lit_6, lit_7, lit_8, lit_9, lit_10, lit_11, lit_12, lit_13, lit_14, lit_15, lit_16, lit_20, lit_22, lit_24, lit_28, lit_30, lit_31, lit_32, lit_39, lit_40, lit_42, lit_48, lit_50, lit_57, lit_60, lit_61, lit_62, lit_63, lit_64, lit_100, lit_120, lit_121, lit_122, lit_128, lit_130, lit_255, lit_256, lit_360, lit_1024, lit_2147483647, nI_l, i0, lN_eqP, q2]
theorem ok_several {t : Nat}  (ht : t < 64) (p1 : Int32) (p2 : Int64)  : ∃ (r : Int32), f_OL_several p1 p2 = some r ∧ f_Mo_several p1 p2 = some r := by
  rcases n_cases p1 with a | ⟨s, hs, rfl⟩
  · simp (disch := omega) only [n_lt, n_le, n_eq, n_cl, n_sub, nI_add, pk_mul, n_subL, n_Lsub, n_neN, n_Nne, n_leN, n_ltN, n_Nlt, n_Nle, le_T, le_F, lt_T, lt_F, eq_T, eq_F, true_or, or_true, false_or, or_false, true_and, and_true, false_and, and_false, and_self, or_self, not_true_eq_false, not_false_eq_true, decide_eq_true_eq, decide_true, decide_false, Bool.false_eq_true, Bool.true_eq_false, eq_self, ↓reduceIte, Option.bind_some, mo_in, lit_0, lit_1, lit_2, lit_3, lit_4, lit_5, lit_6, lit_7, lit_8, lit_9, lit_10, lit_11, lit_12, lit_13, lit_14, lit_15, lit_16, lit_20, lit_22, lit_24, lit_28, lit_30, lit_31, lit_32, lit_39, lit_40, lit_42, lit_48, lit_50, lit_57, lit_60, lit_61, lit_62, lit_63, lit_64, lit_100, lit_120, lit_121, lit_122, lit_128, lit_130, lit_255, lit_256, lit_360, lit_1024, lit_2147483647, f_OL_several, f_Mo_several, neg_div100 a, m_lt a]
    first | exact ⟨_, rfl, rfl⟩ | exact ⟨_, rfl⟩
  have e1 : nI s / nI 100 = nI (s / 100) := n_div hs 100 (by omega) (by omega)
  have e2 : nI s - nI (s / 100) * nI 100 = nI (s % 100) := by
    rw [← e1]; exact n_rem hs 100 (by omega) (by omega)
  by_cases h2 : s / 100 < 2
  · simp (disch := omega) only [n_lt, n_le, n_eq, n_cl, n_sub, nI_add, pk_mul, n_subL, n_Lsub, n_neN, n_Nne, n_leN, n_ltN, n_Nlt, n_Nle, le_T, le_F, lt_T, lt_F, eq_T, eq_F, true_or, or_true, false_or, or_false, true_and, and_true, false_and, and_false, and_self, or_self, not_true_eq_false, not_false_eq_true, decide_eq_true_eq, decide_true, decide_false, Bool.false_eq_true, Bool.true_eq_false, eq_self, ↓reduceIte, Option.bind_some, mo_in, lit_0, lit_1, lit_2, lit_3, lit_4, lit_5, lit_6, lit_7, lit_8, lit_9, lit_10, lit_11, lit_12, lit_13, lit_14, lit_15, lit_16, lit_20, lit_22, lit_24, lit_28, lit_30, lit_31, lit_32, lit_39, lit_40, lit_42, lit_48, lit_50, lit_57, lit_60, lit_61, lit_62, lit_63, lit_64, lit_100, lit_120, lit_121, lit_122, lit_128, lit_130, lit_255, lit_256, lit_360, lit_1024, lit_2147483647, f_OL_several, f_Mo_several, e1]
    first | exact ⟨_, rfl, rfl⟩ | exact ⟨_, rfl⟩
  by_cases h9 : 9 < s / 100
  · simp (disch := omega) only [n_lt, n_le, n_eq, n_cl, n_sub, nI_add, pk_mul, n_subL, n_Lsub, n_neN, n_Nne, n_leN, n_ltN, n_Nlt, n_Nle, le_T, le_F, lt_T, lt_F, eq_T, eq_F, true_or, or_true, false_or, or_false, true_and, and_true, false_and, and_false, and_self, or_self, not_true_eq_false, not_false_eq_true, decide_eq_true_eq, decide_true, decide_false, Bool.false_eq_true, Bool.true_eq_false, eq_self, ↓reduceIte, Option.bind_some, mo_in, lit_0, lit_1, lit_2, lit_3, lit_4, lit_5, lit_6, lit_7, lit_8, lit_9, lit_10, lit_11, lit_12, lit_13, lit_14, lit_15, lit_16, lit_20, lit_22, lit_24, lit_28, lit_30, lit_31, lit_32, lit_39, lit_40, lit_42, lit_48, lit_50, lit_57, lit_60, lit_61, lit_62, lit_63, lit_64, lit_100, lit_120, lit_121, lit_122, lit_128, lit_130, lit_255, lit_256, lit_360, lit_1024, lit_2147483647, f_OL_several, f_Mo_several, e1]
    first | exact ⟨_, rfl, rfl⟩ | exact ⟨_, rfl⟩
  have pm : nI (s / 100) * nI 100 = nI (s / 100 * 100) := pk_mul _ _
  have e3 : nI s - nI (s / 100 * 100) = nI (s % 100) := by rw [← pm]; exact e2
  have e4 : s - s / 100 * 100 = s % 100 := by omega
  by_cases h30 : 30 < s % 100
  · simp (disch := omega) only [f_OL_several, f_Mo_several, e3, n_lt, n_le, n_eq, n_cl, n_sub, nI_add, pk_mul, n_subL, n_Lsub, n_neN, n_Nne, n_leN, n_ltN, n_Nlt, n_Nle, le_T, le_F, lt_T, lt_F, eq_T, eq_F, true_or, or_true, false_or, or_false, true_and, and_true, false_and, and_false, and_self, or_self, not_true_eq_false, not_false_eq_true, decide_eq_true_eq, decide_true, decide_false, Bool.false_eq_true, Bool.true_eq_false, eq_self, ↓reduceIte, Option.bind_some, mo_in, lit_0, lit_1, lit_2, lit_3, lit_4, lit_5, lit_6, lit_7, lit_8, lit_9, lit_10, lit_11, lit_12, lit_13, lit_14, lit_15, lit_16, lit_20, lit_22, lit_24, lit_28, lit_30, lit_31, lit_32, lit_39, lit_40, lit_42, lit_48, lit_50, lit_57, lit_60, lit_61, lit_62, lit_63, lit_64, lit_100, lit_120, lit_121, lit_122, lit_128, lit_130, lit_255, lit_256, lit_360, lit_1024, lit_2147483647, e1, e4]
    first | exact ⟨_, rfl, rfl⟩ | exact ⟨_, rfl⟩
  rcases far_cases p2 with a | ⟨k, hk, rfl⟩
  · simp (disch := omega) only [n_lt, n_le, n_eq, n_cl, n_sub, nI_add, pk_mul, n_subL, n_Lsub, n_neN, n_Nne, n_leN, n_ltN, n_Nlt, n_Nle, le_T, le_F, lt_T, lt_F, eq_T, eq_F, true_or, or_true, false_or, or_false, true_and, and_true, false_and, and_false, and_self, or_self, not_true_eq_false, not_false_eq_true, decide_eq_true_eq, decide_true, decide_false, Bool.false_eq_true, Bool.true_eq_false, eq_self, ↓reduceIte, Option.bind_some, mo_in, lit_0, lit_1, lit_2, lit_3, lit_4, lit_5, lit_6, lit_7, lit_8, lit_9, lit_10, lit_11, lit_12, lit_13, lit_14, lit_15, lit_16, lit_20, lit_22, lit_24, lit_28, lit_30, lit_31, lit_32, lit_39, lit_40, lit_42, lit_48, lit_50, lit_57, lit_60, lit_61, lit_62, lit_63, lit_64, lit_100, lit_120, lit_121, lit_122, lit_128, lit_130, lit_255, lit_256, lit_360, lit_1024, lit_2147483647, f_OL_several, f_Mo_several, f_Mo_isFar, litL_0, a, e1, e4]
    first | exact ⟨_, rfl, rfl⟩ | exact ⟨_, rfl⟩
  by_cases hk62 : k < 4611686018427387904
  rotate_left
  · simp (disch := omega) only [n_lt, n_le, n_eq, n_cl, n_sub, nI_add, pk_mul, n_subL, n_Lsub, n_neN, n_Nne, n_leN, n_ltN, n_Nlt, n_Nle, le_T, le_F, lt_T, lt_F, eq_T, eq_F, true_or, or_true, false_or, or_false, true_and, and_true, false_and, and_false, and_self, or_self, not_true_eq_false, not_false_eq_true, decide_eq_true_eq, decide_true, decide_false, Bool.false_eq_true, Bool.true_eq_false, eq_self, ↓reduceIte, Option.bind_some, mo_in, lit_0, lit_1, lit_2, lit_3, lit_4, lit_5, lit_6, lit_7, lit_8, lit_9, lit_10, lit_11, lit_12, lit_13, lit_14, lit_15, lit_16, lit_20, lit_22, lit_24, lit_28, lit_30, lit_31, lit_32, lit_39, lit_40, lit_42, lit_48, lit_50, lit_57, lit_60, lit_61, lit_62, lit_63, lit_64, lit_100, lit_120, lit_121, lit_122, lit_128, lit_130, lit_255, lit_256, lit_360, lit_1024, lit_2147483647, f_OL_several, f_Mo_several, f_Mo_isFar, litL_0, litL_62, nI_l, lN_sshr, lgN_lt, lgN_eq, e1, e4]
    first | exact ⟨_, rfl, rfl⟩ | exact ⟨_, rfl⟩
  obtain ⟨r, q1, q2⟩ := sev_all (st := s / 100) (la := s % 100) (by omega) (by omega) (by omega) (s % 100) 3000 3000 (lN k) (by omega) (by omega) (by omega)
  rw [Nat.sub_self] at q1
  simp (disch := omega) only [n_lt, n_le, n_eq, n_cl, n_sub, nI_add, pk_mul, n_subL, n_Lsub, n_neN, n_Nne, n_leN, n_ltN, n_Nlt, n_Nle, le_T, le_F, lt_T, lt_F, eq_T, eq_F, true_or, or_true, false_or, or_false, true_and, and_true, false_and, and_false, and_self, or_self, not_true_eq_false, not_false_eq_true, decide_eq_true_eq, decide_true, decide_false, Bool.false_eq_true, Bool.true_eq_false, eq_self, ↓reduceIte, Option.bind_some, mo_in, lit_0, lit_1, lit_2, lit_3, lit_4, lit_5, lit_6, lit_7, lit_8, lit_9, lit_10, lit_11, lit_12, lit_13, lit_14, lit_15, lit_16, lit_20, lit_22, lit_24, lit_28, lit_30, lit_31, lit_32, lit_39, lit_40, lit_42, lit_48, lit_50, lit_57, lit_60, lit_61, lit_62, lit_63, lit_64, lit_100, lit_120, lit_121, lit_122, lit_128, lit_130, lit_255, lit_256, lit_360, lit_1024, lit_2147483647, f_OL_several, f_Mo_several, f_Mo_isFar, litL_0, litL_62, nI_l, lN_sshr, lgN_lt, lgN_eq, e1, e4, q1, q2]
  first | exact ⟨_, rfl, rfl⟩ | exact ⟨_, rfl⟩
