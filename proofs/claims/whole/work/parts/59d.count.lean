/-! PURE: pictures counted; what costs least -/
theorem pi_size (w : Nat → Int64) : f_Pi_size w = some (nI (fb_ct (bitw w) 1024)) := by
  have h : ∀ (e i fu : Nat), i + e = 16 → e < fu → f_Pi_size_L13 fu (nI (fb_ct (bitw w) (64 * i))) (nI 16) (nI i) w = some (nI (fb_ct (bitw w) 1024)) := by
    intro e
    induction e with
    | zero =>
      intro i fu hi hfu
      obtain ⟨n, rfl⟩ : ∃ n, fu = n + 1 := ⟨fu - 1, by omega⟩
      obtain rfl : i = 16 := by omega
      rw [f_Pi_size_L13]
      simp (disch := omega) only [n_lt, n_le, n_eq, n_cl, n_sub, nI_add, pk_mul, n_subL, n_Lsub, n_neN, n_Nne, n_leN, n_ltN, n_Nlt, n_Nle, le_T, le_F, lt_T, lt_F, eq_T, eq_F, true_or, or_true, false_or, or_false, true_and, and_true, false_and, and_false, and_self, or_self, not_true_eq_false, not_false_eq_true, decide_eq_true_eq, decide_true, decide_false, Bool.false_eq_true, Bool.true_eq_false, eq_self, ↓reduceIte, Option.bind_some, mo_in, lit_0, lit_1, lit_2, lit_3, lit_4, lit_5, lit_6, lit_7, lit_8, lit_9, lit_10, lit_11, lit_12, lit_13, lit_14, lit_15, lit_16, lit_20, lit_22, lit_24, lit_28, lit_30, lit_31, lit_32, lit_39, lit_40, lit_42, lit_48, lit_50, lit_57, lit_60, lit_61, lit_62, lit_63, lit_64, lit_100, lit_120, lit_121, lit_122, lit_128, lit_130, lit_255, lit_256, lit_360, lit_1024, lit_2147483647]
    | succ e ih =>
      intro i fu hi hfu
      obtain ⟨n, rfl⟩ : ∃ n, fu = n + 1 := ⟨fu - 1, by omega⟩
      have e1 : fb_ct (bitw w) (64 * i) + lw_bits (w i).toBitVec.toNat 64 = fb_ct (bitw w) (64 * (i + 1)) := by
        rw [show 64 * (i + 1) = 64 * i + 64 by omega, fb_ct_split, lw_bits_ct]
        congr 1
        apply fb_ct_cong
        intro k hk
        show (w i).toBitVec.toNat.testBit k = (w ((64 * i + k) / 64)).toBitVec.toNat.testBit ((64 * i + k) % 64)
        rw [show (64 * i + k) / 64 = i by omega, show (64 * i + k) % 64 = k by omega]
      rw [f_Pi_size_L13]
      simp (disch := omega) only [n_lt, n_le, n_eq, n_cl, n_sub, nI_add, pk_mul, n_subL, n_Lsub, n_neN, n_Nne, n_leN, n_ltN, n_Nlt, n_Nle, le_T, le_F, lt_T, lt_F, eq_T, eq_F, true_or, or_true, false_or, or_false, true_and, and_true, false_and, and_false, and_self, or_self, not_true_eq_false, not_false_eq_true, decide_eq_true_eq, decide_true, decide_false, Bool.false_eq_true, Bool.true_eq_false, eq_self, ↓reduceIte, Option.bind_some, mo_in, lit_0, lit_1, lit_2, lit_3, lit_4, lit_5, lit_6, lit_7, lit_8, lit_9, lit_10, lit_11, lit_12, lit_13, lit_14, lit_15, lit_16, lit_20, lit_22, lit_24, lit_28, lit_30, lit_31, lit_32, lit_39, lit_40, lit_42, lit_48, lit_50, lit_57, lit_60, lit_61, lit_62, lit_63, lit_64, lit_100, lit_120, lit_121, lit_122, lit_128, lit_130, lit_255, lit_256, lit_360, lit_1024, lit_2147483647, jl_count, e1]
      exact ih (i + 1) n (by omega) (by omega)
  exact h 16 0 3000 (by omega) (by omega)
theorem mo_told_many {f : Nat → Int32} {p : Nat → Bool} (h : ∀ q, q < 1024 → f q = b2i (p q)) : f_Mo_toldMany f = some (nI (fb_ct p 1024)) := by
  have h : ∀ (e i fu : Nat), i + e = 1024 → e < fu → f_Mo_toldMany_L4 fu (nI (fb_ct p i)) (nI i) f = some (nI (fb_ct p 1024)) := by
    intro e
    induction e with
    | zero =>
      intro i fu hi hfu
      obtain ⟨n, rfl⟩ : ∃ n, fu = n + 1 := ⟨fu - 1, by omega⟩
      obtain rfl : i = 1024 := by omega
      rw [f_Mo_toldMany_L4]
      simp (disch := omega) only [n_lt, n_le, n_eq, n_cl, n_sub, nI_add, pk_mul, n_subL, n_Lsub, n_neN, n_Nne, n_leN, n_ltN, n_Nlt, n_Nle, le_T, le_F, lt_T, lt_F, eq_T, eq_F, true_or, or_true, false_or, or_false, true_and, and_true, false_and, and_false, and_self, or_self, not_true_eq_false, not_false_eq_true, decide_eq_true_eq, decide_true, decide_false, Bool.false_eq_true, Bool.true_eq_false, eq_self, ↓reduceIte, Option.bind_some, mo_in, lit_0, lit_1, lit_2, lit_3, lit_4, lit_5, lit_6, lit_7, lit_8, lit_9, lit_10, lit_11, lit_12, lit_13, lit_14, lit_15, lit_16, lit_20, lit_22, lit_24, lit_28, lit_30, lit_31, lit_32, lit_39, lit_40, lit_42, lit_48, lit_50, lit_57, lit_60, lit_61, lit_62, lit_63, lit_64, lit_100, lit_120, lit_121, lit_122, lit_128, lit_130, lit_255, lit_256, lit_360, lit_1024, lit_2147483647]
    | succ e ih =>
      intro i fu hi hfu
      obtain ⟨n, rfl⟩ : ∃ n, fu = n + 1 := ⟨fu - 1, by omega⟩
      have e1 := h i (by omega)
      have e2 := fb_ct_succ p i
      have e3 := ih (i + 1) n (by omega) (by omega)
      rw [e2] at e3
      rw [f_Mo_toldMany_L4]
      cases hp : p i with
      | true =>
        rw [hp] at e1 e3
        have e4 : f i = nI 1 := e1
        simp (disch := omega) only [n_lt, n_le, n_eq, n_cl, n_sub, nI_add, pk_mul, n_subL, n_Lsub, n_neN, n_Nne, n_leN, n_ltN, n_Nlt, n_Nle, le_T, le_F, lt_T, lt_F, eq_T, eq_F, true_or, or_true, false_or, or_false, true_and, and_true, false_and, and_false, and_self, or_self, not_true_eq_false, not_false_eq_true, decide_eq_true_eq, decide_true, decide_false, Bool.false_eq_true, Bool.true_eq_false, eq_self, ↓reduceIte, Option.bind_some, mo_in, lit_0, lit_1, lit_2, lit_3, lit_4, lit_5, lit_6, lit_7, lit_8, lit_9, lit_10, lit_11, lit_12, lit_13, lit_14, lit_15, lit_16, lit_20, lit_22, lit_24, lit_28, lit_30, lit_31, lit_32, lit_39, lit_40, lit_42, lit_48, lit_50, lit_57, lit_60, lit_61, lit_62, lit_63, lit_64, lit_100, lit_120, lit_121, lit_122, lit_128, lit_130, lit_255, lit_256, lit_360, lit_1024, lit_2147483647, f_Mo_toldMany_L23, e4]
        exact e3
      | false =>
        rw [hp] at e1 e3
        have e4 : f i = nI 0 := e1
        simp (disch := omega) only [n_lt, n_le, n_eq, n_cl, n_sub, nI_add, pk_mul, n_subL, n_Lsub, n_neN, n_Nne, n_leN, n_ltN, n_Nlt, n_Nle, le_T, le_F, lt_T, lt_F, eq_T, eq_F, true_or, or_true, false_or, or_false, true_and, and_true, false_and, and_false, and_self, or_self, not_true_eq_false, not_false_eq_true, decide_eq_true_eq, decide_true, decide_false, Bool.false_eq_true, Bool.true_eq_false, eq_self, ↓reduceIte, Option.bind_some, mo_in, lit_0, lit_1, lit_2, lit_3, lit_4, lit_5, lit_6, lit_7, lit_8, lit_9, lit_10, lit_11, lit_12, lit_13, lit_14, lit_15, lit_16, lit_20, lit_22, lit_24, lit_28, lit_30, lit_31, lit_32, lit_39, lit_40, lit_42, lit_48, lit_50, lit_57, lit_60, lit_61, lit_62, lit_63, lit_64, lit_100, lit_120, lit_121, lit_122, lit_128, lit_130, lit_255, lit_256, lit_360, lit_1024, lit_2147483647, f_Mo_toldMany_L23, e4]
        exact e3
  exact h 1024 0 3000 (by omega) (by omega)
theorem mo_had_many {f : Nat → Int32} {p : Nat → Bool} {l : Nat} (hl : l ≤ 10) (h : ∀ q, q < 1024 → f q = b2i (p q)) (h0 : ∀ q, 2 ^ l ≤ q → q < 1024 → p q = false) : f_Mo_hadMany (nI l) f = some (nI (fb_ct p 1024)) := by
  have hp := p_pow hl
  have hz : fb_ct p 1024 = fb_ct p (2 ^ l) := by
    rw [show 1024 = 2 ^ l + (1024 - 2 ^ l) by omega, fb_ct_split]
    have : fb_ct (fun k => p (2 ^ l + k)) (1024 - 2 ^ l) = 0 := fb_ct_zero.mpr (fun k hk => h0 (2 ^ l + k) (by omega) (by omega))
    omega
  rw [hz]
  have e0 := mo_pics hl
  have h : ∀ (e i fu : Nat), i + e = 2 ^ l → e < fu → f_Mo_hadMany_L4 fu (nI (fb_ct p i)) (nI i) (nI l) f = some (nI (fb_ct p (2 ^ l))) := by
    intro e
    induction e with
    | zero =>
      intro i fu hi hfu
      obtain ⟨n, rfl⟩ : ∃ n, fu = n + 1 := ⟨fu - 1, by omega⟩
      obtain rfl : i = 2 ^ l := by omega
      rw [f_Mo_hadMany_L4]
      simp (disch := omega) only [n_lt, n_le, n_eq, n_cl, n_sub, nI_add, pk_mul, n_subL, n_Lsub, n_neN, n_Nne, n_leN, n_ltN, n_Nlt, n_Nle, le_T, le_F, lt_T, lt_F, eq_T, eq_F, true_or, or_true, false_or, or_false, true_and, and_true, false_and, and_false, and_self, or_self, not_true_eq_false, not_false_eq_true, decide_eq_true_eq, decide_true, decide_false, Bool.false_eq_true, Bool.true_eq_false, eq_self, ↓reduceIte, Option.bind_some, mo_in, lit_0, lit_1, lit_2, lit_3, lit_4, lit_5, lit_6, lit_7, lit_8, lit_9, lit_10, lit_11, lit_12, lit_13, lit_14, lit_15, lit_16, lit_20, lit_22, lit_24, lit_28, lit_30, lit_31, lit_32, lit_39, lit_40, lit_42, lit_48, lit_50, lit_57, lit_60, lit_61, lit_62, lit_63, lit_64, lit_100, lit_120, lit_121, lit_122, lit_128, lit_130, lit_255, lit_256, lit_360, lit_1024, lit_2147483647, e0]
    | succ e ih =>
      intro i fu hi hfu
      obtain ⟨n, rfl⟩ : ∃ n, fu = n + 1 := ⟨fu - 1, by omega⟩
      have e1 := h i (by omega)
      have e2 := fb_ct_succ p i
      have e3 := ih (i + 1) n (by omega) (by omega)
      rw [e2] at e3
      rw [f_Mo_hadMany_L4]
      cases hp : p i with
      | true =>
        rw [hp] at e1 e3
        have e4 : f i = nI 1 := e1
        simp (disch := omega) only [n_lt, n_le, n_eq, n_cl, n_sub, nI_add, pk_mul, n_subL, n_Lsub, n_neN, n_Nne, n_leN, n_ltN, n_Nlt, n_Nle, le_T, le_F, lt_T, lt_F, eq_T, eq_F, true_or, or_true, false_or, or_false, true_and, and_true, false_and, and_false, and_self, or_self, not_true_eq_false, not_false_eq_true, decide_eq_true_eq, decide_true, decide_false, Bool.false_eq_true, Bool.true_eq_false, eq_self, ↓reduceIte, Option.bind_some, mo_in, lit_0, lit_1, lit_2, lit_3, lit_4, lit_5, lit_6, lit_7, lit_8, lit_9, lit_10, lit_11, lit_12, lit_13, lit_14, lit_15, lit_16, lit_20, lit_22, lit_24, lit_28, lit_30, lit_31, lit_32, lit_39, lit_40, lit_42, lit_48, lit_50, lit_57, lit_60, lit_61, lit_62, lit_63, lit_64, lit_100, lit_120, lit_121, lit_122, lit_128, lit_130, lit_255, lit_256, lit_360, lit_1024, lit_2147483647, f_Mo_hadMany_L24, e0, e4]
        exact e3
      | false =>
        rw [hp] at e1 e3
        have e4 : f i = nI 0 := e1
        simp (disch := omega) only [n_lt, n_le, n_eq, n_cl, n_sub, nI_add, pk_mul, n_subL, n_Lsub, n_neN, n_Nne, n_leN, n_ltN, n_Nlt, n_Nle, le_T, le_F, lt_T, lt_F, eq_T, eq_F, true_or, or_true, false_or, or_false, true_and, and_true, false_and, and_false, and_self, or_self, not_true_eq_false, not_false_eq_true, decide_eq_true_eq, decide_true, decide_false, Bool.false_eq_true, Bool.true_eq_false, eq_self, ↓reduceIte, Option.bind_some, mo_in, lit_0, lit_1, lit_2, lit_3, lit_4, lit_5, lit_6, lit_7, lit_8, lit_9, lit_10, lit_11, lit_12, lit_13, lit_14, lit_15, lit_16, lit_20, lit_22, lit_24, lit_28, lit_30, lit_31, lit_32, lit_39, lit_40, lit_42, lit_48, lit_50, lit_57, lit_60, lit_61, lit_62, lit_63, lit_64, lit_100, lit_120, lit_121, lit_122, lit_128, lit_130, lit_255, lit_256, lit_360, lit_1024, lit_2147483647, f_Mo_hadMany_L24, e0, e4]
        exact e3
  exact h (2 ^ l) 0 3000 (by omega) (by omega)
theorem ok_count {t : Nat} {x_L_wall_lamps : Int32} {x_L_wall_picture : Int32} {x_L_wall_night : Int32} {x_L_wall_spent : Int32} {x_L_wall_had_words : Nat → Int64} {x_L_wall_told_words : Nat → Int64} {x_L_wall_last : Nat → Int32} {x_L_wall_often : Nat → Int32} {x_M_lamps : Int32} {x_M_at : Int32} {x_M_night : Int32} {x_M_spent : Int32} {x_M_had : Nat → Int32} {x_M_told : Nat → Int32} {x_M_last : Nat → Int32} {x_M_often : Nat → Int32} {x_M_hasBegun : Bool} {x_L_tape_letters : Nat → Int32} {x_L_tape_length : Int32} {x_M_tape : Nat → Int32} {x_M_taped : Int32} {x_L_costs_prices : Nat → Int32} {x_L_costs_lamps : Nat → Int32} {x_L_costs_before : Nat → Int32} {x_L_costs_after : Nat → Int32} {x_L_costs_done : Int32} {x_L_costs_undone : Int32} {x_M_cost : Nat → Int32} {x_M_changeAt : Nat → Int32} {x_M_before : Nat → Int32} {x_M_behind : Nat → Int32} {x_M_doneMany : Int32} {x_M_undoneMany : Int32} {x_L_acts_kinds : Nat → Int32} {x_L_acts_bodies : Int32} {x_L_acts_trace : Nat → Int32} {x_L_acts_ran : Int32} {x_M_kind : Nat → Int32} {x_M_bodies : Int32} {x_M_traced : Nat → Int32} {x_M_traces : Int32} (ht : t < 64) (p1 : Int32) (hW : R_wall t x_L_wall_lamps x_L_wall_picture x_L_wall_night x_L_wall_spent x_L_wall_had_words x_L_wall_told_words x_L_wall_last x_L_wall_often x_M_lamps x_M_at x_M_night x_M_spent x_M_had x_M_told x_M_last x_M_often x_M_hasBegun) (hT : R_tape x_L_tape_letters x_L_tape_length x_M_tape x_M_taped) (hP : R_costs x_L_costs_prices x_L_costs_lamps x_L_costs_before x_L_costs_after x_L_costs_done x_L_costs_undone x_M_cost x_M_changeAt x_M_before x_M_behind x_M_doneMany x_M_undoneMany) (hA : R_acts x_L_acts_kinds x_L_acts_bodies x_L_acts_trace x_L_acts_ran x_M_kind x_M_bodies x_M_traced x_M_traces) : ∃ (r : Int32), f_OL_count p1 x_L_acts_bodies x_L_acts_ran x_L_costs_done x_L_tape_length x_L_wall_told_words = some r ∧ f_Mo_count p1 x_M_doneMany x_M_taped x_M_bodies x_M_traces x_M_told = some r := by
  obtain ⟨_, _, _, _, _, hT2, _, _⟩ := hW
  obtain ⟨k1, _, rfl, rfl, _⟩ := hT
  obtain ⟨_, d, u, hdu, rfl, rfl, rfl, rfl, _⟩ := hP
  obtain ⟨kb, r, hkb, rfl, rfl, _, hr, rfl, rfl, _⟩ := hA
  have e1 := pi_size x_L_wall_told_words
  have e2 := mo_told_many hT2
  rcases n_cases p1 with a | ⟨j, hj, rfl⟩
  · simp (disch := omega) only [n_lt, n_le, n_eq, n_cl, n_sub, nI_add, pk_mul, n_subL, n_Lsub, n_neN, n_Nne, n_leN, n_ltN, n_Nlt, n_Nle, le_T, le_F, lt_T, lt_F, eq_T, eq_F, true_or, or_true, false_or, or_false, true_and, and_true, false_and, and_false, and_self, or_self, not_true_eq_false, not_false_eq_true, decide_eq_true_eq, decide_true, decide_false, Bool.false_eq_true, Bool.true_eq_false, eq_self, ↓reduceIte, Option.bind_some, mo_in, lit_0, lit_1, lit_2, lit_3, lit_4, lit_5, lit_6, lit_7, lit_8, lit_9, lit_10, lit_11, lit_12, lit_13, lit_14, lit_15, lit_16, lit_20, lit_22, lit_24, lit_28, lit_30, lit_31, lit_32, lit_39, lit_40, lit_42, lit_48, lit_50, lit_57, lit_60, lit_61, lit_62, lit_63, lit_64, lit_100, lit_120, lit_121, lit_122, lit_128, lit_130, lit_255, lit_256, lit_360, lit_1024, lit_2147483647, f_OL_count, f_Mo_count, m_lt a, m_le a, m_gt a, m_ge a, m_eq a]
    first | exact ⟨_, rfl, rfl⟩ | exact ⟨_, rfl⟩
  by_cases h0 : j = 0
  · simp (disch := omega) only [n_lt, n_le, n_eq, n_cl, n_sub, nI_add, pk_mul, n_subL, n_Lsub, n_neN, n_Nne, n_leN, n_ltN, n_Nlt, n_Nle, le_T, le_F, lt_T, lt_F, eq_T, eq_F, true_or, or_true, false_or, or_false, true_and, and_true, false_and, and_false, and_self, or_self, not_true_eq_false, not_false_eq_true, decide_eq_true_eq, decide_true, decide_false, Bool.false_eq_true, Bool.true_eq_false, eq_self, ↓reduceIte, Option.bind_some, mo_in, lit_0, lit_1, lit_2, lit_3, lit_4, lit_5, lit_6, lit_7, lit_8, lit_9, lit_10, lit_11, lit_12, lit_13, lit_14, lit_15, lit_16, lit_20, lit_22, lit_24, lit_28, lit_30, lit_31, lit_32, lit_39, lit_40, lit_42, lit_48, lit_50, lit_57, lit_60, lit_61, lit_62, lit_63, lit_64, lit_100, lit_120, lit_121, lit_122, lit_128, lit_130, lit_255, lit_256, lit_360, lit_1024, lit_2147483647, f_OL_count, f_Mo_count, e1, e2]
    first | exact ⟨_, rfl, rfl⟩ | exact ⟨_, rfl⟩
  by_cases h1 : j = 1
  · simp (disch := omega) only [n_lt, n_le, n_eq, n_cl, n_sub, nI_add, pk_mul, n_subL, n_Lsub, n_neN, n_Nne, n_leN, n_ltN, n_Nlt, n_Nle, le_T, le_F, lt_T, lt_F, eq_T, eq_F, true_or, or_true, false_or, or_false, true_and, and_true, false_and, and_false, and_self, or_self, not_true_eq_false, not_false_eq_true, decide_eq_true_eq, decide_true, decide_false, Bool.false_eq_true, Bool.true_eq_false, eq_self, ↓reduceIte, Option.bind_some, mo_in, lit_0, lit_1, lit_2, lit_3, lit_4, lit_5, lit_6, lit_7, lit_8, lit_9, lit_10, lit_11, lit_12, lit_13, lit_14, lit_15, lit_16, lit_20, lit_22, lit_24, lit_28, lit_30, lit_31, lit_32, lit_39, lit_40, lit_42, lit_48, lit_50, lit_57, lit_60, lit_61, lit_62, lit_63, lit_64, lit_100, lit_120, lit_121, lit_122, lit_128, lit_130, lit_255, lit_256, lit_360, lit_1024, lit_2147483647, f_OL_count, f_Mo_count]
    first | exact ⟨_, rfl, rfl⟩ | exact ⟨_, rfl⟩
  by_cases h2 : j = 2
  · simp (disch := omega) only [n_lt, n_le, n_eq, n_cl, n_sub, nI_add, pk_mul, n_subL, n_Lsub, n_neN, n_Nne, n_leN, n_ltN, n_Nlt, n_Nle, le_T, le_F, lt_T, lt_F, eq_T, eq_F, true_or, or_true, false_or, or_false, true_and, and_true, false_and, and_false, and_self, or_self, not_true_eq_false, not_false_eq_true, decide_eq_true_eq, decide_true, decide_false, Bool.false_eq_true, Bool.true_eq_false, eq_self, ↓reduceIte, Option.bind_some, mo_in, lit_0, lit_1, lit_2, lit_3, lit_4, lit_5, lit_6, lit_7, lit_8, lit_9, lit_10, lit_11, lit_12, lit_13, lit_14, lit_15, lit_16, lit_20, lit_22, lit_24, lit_28, lit_30, lit_31, lit_32, lit_39, lit_40, lit_42, lit_48, lit_50, lit_57, lit_60, lit_61, lit_62, lit_63, lit_64, lit_100, lit_120, lit_121, lit_122, lit_128, lit_130, lit_255, lit_256, lit_360, lit_1024, lit_2147483647, f_OL_count, f_Mo_count]
    first | exact ⟨_, rfl, rfl⟩ | exact ⟨_, rfl⟩
  by_cases h3 : j = 3
  · simp (disch := omega) only [n_lt, n_le, n_eq, n_cl, n_sub, nI_add, pk_mul, n_subL, n_Lsub, n_neN, n_Nne, n_leN, n_ltN, n_Nlt, n_Nle, le_T, le_F, lt_T, lt_F, eq_T, eq_F, true_or, or_true, false_or, or_false, true_and, and_true, false_and, and_false, and_self, or_self, not_true_eq_false, not_false_eq_true, decide_eq_true_eq, decide_true, decide_false, Bool.false_eq_true, Bool.true_eq_false, eq_self, ↓reduceIte, Option.bind_some, mo_in, lit_0, lit_1, lit_2, lit_3, lit_4, lit_5, lit_6, lit_7, lit_8, lit_9, lit_10, lit_11, lit_12, lit_13, lit_14, lit_15, lit_16, lit_20, lit_22, lit_24, lit_28, lit_30, lit_31, lit_32, lit_39, lit_40, lit_42, lit_48, lit_50, lit_57, lit_60, lit_61, lit_62, lit_63, lit_64, lit_100, lit_120, lit_121, lit_122, lit_128, lit_130, lit_255, lit_256, lit_360, lit_1024, lit_2147483647, f_OL_count, f_Mo_count]
    first | exact ⟨_, rfl, rfl⟩ | exact ⟨_, rfl⟩
  by_cases h4 : j = 4
  · simp (disch := omega) only [n_lt, n_le, n_eq, n_cl, n_sub, nI_add, pk_mul, n_subL, n_Lsub, n_neN, n_Nne, n_leN, n_ltN, n_Nlt, n_Nle, le_T, le_F, lt_T, lt_F, eq_T, eq_F, true_or, or_true, false_or, or_false, true_and, and_true, false_and, and_false, and_self, or_self, not_true_eq_false, not_false_eq_true, decide_eq_true_eq, decide_true, decide_false, Bool.false_eq_true, Bool.true_eq_false, eq_self, ↓reduceIte, Option.bind_some, mo_in, lit_0, lit_1, lit_2, lit_3, lit_4, lit_5, lit_6, lit_7, lit_8, lit_9, lit_10, lit_11, lit_12, lit_13, lit_14, lit_15, lit_16, lit_20, lit_22, lit_24, lit_28, lit_30, lit_31, lit_32, lit_39, lit_40, lit_42, lit_48, lit_50, lit_57, lit_60, lit_61, lit_62, lit_63, lit_64, lit_100, lit_120, lit_121, lit_122, lit_128, lit_130, lit_255, lit_256, lit_360, lit_1024, lit_2147483647, f_OL_count, f_Mo_count]
    first | exact ⟨_, rfl, rfl⟩ | exact ⟨_, rfl⟩
  simp (disch := omega) only [n_lt, n_le, n_eq, n_cl, n_sub, nI_add, pk_mul, n_subL, n_Lsub, n_neN, n_Nne, n_leN, n_ltN, n_Nlt, n_Nle, le_T, le_F, lt_T, lt_F, eq_T, eq_F, true_or, or_true, false_or, or_false, true_and, and_true, false_and, and_false, and_self, or_self, not_true_eq_false, not_false_eq_true, decide_eq_true_eq, decide_true, decide_false, Bool.false_eq_true, Bool.true_eq_false, eq_self, ↓reduceIte, Option.bind_some, mo_in, lit_0, lit_1, lit_2, lit_3, lit_4, lit_5, lit_6, lit_7, lit_8, lit_9, lit_10, lit_11, lit_12, lit_13, lit_14, lit_15, lit_16, lit_20, lit_22, lit_24, lit_28, lit_30, lit_31, lit_32, lit_39, lit_40, lit_42, lit_48, lit_50, lit_57, lit_60, lit_61, lit_62, lit_63, lit_64, lit_100, lit_120, lit_121, lit_122, lit_128, lit_130, lit_255, lit_256, lit_360, lit_1024, lit_2147483647, f_OL_count, f_Mo_count]
  first | exact ⟨_, rfl, rfl⟩ | exact ⟨_, rfl⟩
/-! the least: c: costs of n lamps (0 .. 9 each); le_C c k v: how many of the first k cost less than v -/
def le_C (c : Nat → Nat) (k v : Nat) : Nat := fb_ct (fun l => decide (c l < v)) k
theorem le_C_succ (c : Nat → Nat) (k v : Nat) : le_C c (k + 1) v = le_C c k v + (if c k < v then 1 else 0) := by
  unfold le_C
  rw [fb_ct_succ]
  by_cases h : c k < v
  · simp [h]
  · simp [h]
theorem le_C_mono (c : Nat → Nat) (k : Nat) {v w : Nat} (h : v ≤ w) : le_C c k v ≤ le_C c k w := fb_ct_sub (fun l _ hl => by simp at hl ⊢; omega)
theorem le_C_le (c : Nat → Nat) (k v : Nat) : le_C c k v ≤ k := fb_ct_le _ _
/-- s holds the first k costs in order: at j stands v, when so many are less and no more -/
def le_I (c : Nat → Nat) (k : Nat) (s : Nat → Nat) : Prop := ∀ j, j < k → le_C c k (s j) ≤ j ∧ j < le_C c k (s j + 1)
theorem le_I_mono {c s : Nat → Nat} {k : Nat} (h : le_I c k s) {i j : Nat} (hij : i ≤ j) (hj : j < k) : s i ≤ s j := by
  by_cases e : s i ≤ s j
  · exact e
  · have h1 := (h i (by omega)).1
    have h2 := (h j hj).2
    have h3 := le_C_mono c k (show s j + 1 ≤ s i by omega)
    omega
/-- the next cost comes to its place -/
theorem le_I_put {c s s' : Nat → Nat} {k q : Nat} (h : le_I c k s) (hq : q ≤ k) (h1 : ∀ j, j < q → s j ≤ c k) (h2 : ∀ j, q ≤ j → j < k → c k < s j) (e1 : ∀ j, j < q → s' j = s j) (e2 : s' q = c k) (e3 : ∀ j, q < j → j ≤ k → s' j = s (j - 1)) : le_I c (k + 1) s' := by
  intro j hj
  rw [le_C_succ, le_C_succ]
  rcases Nat.lt_trichotomy j q with a | a | a
  · rw [e1 j a]
    obtain ⟨b1, b2⟩ := h j (by omega)
    have := h1 j a
    rw [if_neg (by omega)]
    constructor
    · omega
    · omega
  · subst a
    rw [e2, if_neg (by omega), if_pos (by omega)]
    constructor
    · by_cases hjk : j < k
      · obtain ⟨b1, b2⟩ := h j hjk
        have := h2 j (by omega) hjk
        have := le_C_mono c k (show c k ≤ s j by omega)
        omega
      · have := le_C_le c k (c k); omega
    · by_cases h0 : j = 0
      · omega
      · obtain ⟨b1, b2⟩ := h (j - 1) (by omega)
        have := h1 (j - 1) (by omega)
        have := le_C_mono c k (show s (j - 1) + 1 ≤ c k + 1 by omega)
        omega
  · rw [e3 j a (by omega)]
    obtain ⟨b1, b2⟩ := h (j - 1) (by omega)
    have := h2 (j - 1) (by omega) (by omega)
    rw [if_pos (by omega), if_pos (by omega)]
    omega
