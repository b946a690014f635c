/-! PURE: ways through all pictures -/
def dls (f : Nat → Option (List Nat)) : Nat → Nat → Option (List Nat)
  | 0, _ => none
  | e + 1, l => match f l with | some w => some (l :: w) | none => dls f e (l + 1)
def dfs (n goal : Nat) : Nat → Nat → Nat → Option (List Nat)
  | 0, p, _ => if p = goal then some [] else none
  | d + 1, p, seen => if p = goal then none else dls (fun l => if seen.testBit (p ^^^ 2 ^ l) = true then none else dfs n goal d (p ^^^ 2 ^ l) (seen ||| 2 ^ (p ^^^ 2 ^ l))) n 0
/-- where an odd number of lamps is unlike, there is a way -/
theorem dfs_all : ∀ n, n < 5 → 1 ≤ n → ∀ a, a < 2 ^ n → ∀ b, b < 2 ^ n → lw_bits (a ^^^ b) 10 % 2 = 1 → (dfs n b (2 ^ n - 1) a (2 ^ a)).isSome = true := by decide +kernel
theorem dls_len {f : Nat → Option (List Nat)} {d : Nat} (h : ∀ l w, f l = some w → w.length = d) : ∀ (e l : Nat) (w : List Nat), dls f e l = some w → w.length = d + 1
  | 0, l, w, z => by cases z
  | e + 1, l, w, z => by
    rw [dls] at z
    cases hf : f l with
    | some v => rw [hf] at z; cases z; have := h l v hf; simp [this]
    | none => rw [hf] at z; exact dls_len h e (l + 1) w z
theorem dfs_len {n goal : Nat} : ∀ (d p seen : Nat) (w : List Nat), dfs n goal d p seen = some w → w.length = d
  | 0, p, seen, w, z => by
    rw [dfs] at z
    by_cases h : p = goal
    · rw [if_pos h] at z; cases z; rfl
    · rw [if_neg h] at z; cases z
  | d + 1, p, seen, w, z => by
    rw [dfs] at z
    by_cases h : p = goal
    · rw [if_pos h] at z; cases z
    · rw [if_neg h] at z
      refine dls_len (fun l w hl => ?_) n 0 w z
      by_cases c : seen.testBit (p ^^^ 2 ^ l) = true
      · rw [if_pos c] at hl; cases hl
      · rw [if_neg c] at hl; exact dfs_len d _ _ w hl
theorem n_and1 (a : Nat) : nI a &&& nI 1 = nI (a % 2) := by rw [fa_and, Nat.and_one_is_mod]
theorem tb_mod (s q : Nat) : s / 2 ^ q % 2 = if s.testBit q = true then 1 else 0 := by
  rw [Nat.testBit_eq_decide_div_mod_eq]
  by_cases h : s / 2 ^ q % 2 = 1
  · simp [h]
  · simp [h]; omega
theorem seen_add {N q s : Nat} (hq : q < N) (h : s.testBit q = false) : fb_ct (fun i => (s ||| 2 ^ q).testBit i) N = fb_ct (fun i => s.testBit i) N + 1 := by
  have e := fb_ct_upd (fun i => s.testBit i) true hq
  simp only [h] at e
  rw [← fb_ct_cong (p := fun k => if k = q then true else s.testBit k) (q := fun i => (s ||| 2 ^ q).testBit i)]
  · simpa using e
  · intro r hr
    rw [fb_bit_set]
    by_cases c : r = q
    · simp [c]
    · simp [c]
theorem seen_full {N s : Nat} (hs : s < 2 ^ N) (h : fb_ct (fun i => s.testBit i) N = N) : s = 2 ^ N - 1 := by
  apply Nat.eq_of_testBit_eq
  intro i
  rw [Nat.testBit_two_pow_sub_one]
  by_cases c : i < N
  · rw [fb_ct_all.mp h i c]; simp [c]
  · have : s < 2 ^ i := Nat.lt_of_lt_of_le hs (Nat.pow_le_pow_right (by decide) (by omega))
    rw [Nat.testBit_lt_two_pow this]; simp [c]
theorem seen_part {N s : Nat} (h : fb_ct (fun i => s.testBit i) N < N) : ¬ s = 2 ^ N - 1 := by
  intro e
  have : fb_ct (fun i => s.testBit i) N = N := fb_ct_all.mpr (fun k hk => by rw [e, Nat.testBit_two_pow_sub_one]; simp [hk])
  omega
theorem all_pic {n : Nat} (hn : n ≤ 4) : (nI 1 <<< (nI 1 <<< (nI n &&& nI 31) &&& nI 31)) - nI 1 = nI (2 ^ (2 ^ n) - 1) := by
  have h16 : 2 ^ n ≤ 2 ^ 4 := Nat.pow_le_pow_right (by decide) hn
  rw [q_shl (by omega), q_shl (by omega)]
  exact pk_sub (Nat.one_le_two_pow)
theorem cl_thr {n goal : Nat} (hn1 : 1 ≤ n) (hn : n ≤ 4) (hg : goal < 2 ^ n) : ∀ (d fu k p seen : Nat) (way : Nat → Int32), d < fu → k + d + 1 = 2 ^ n → p < 2 ^ n → seen < 2 ^ (2 ^ n) → fb_ct (fun i => seen.testBit i) (2 ^ n) = k + 1 → ∃ way', f_Th_seekThrough fu (nI p) (nI goal) (nI seen) (nI k) (nI n) way = some ((dfs n goal d p seen).isSome, way') ∧ (∀ j, j < k → way' j = way j) ∧ ∀ w, dfs n goal d p seen = some w → ∀ j x, w[j]? = some x → way' (k + j) = nI x := by
  have h16 : 2 ^ n ≤ 2 ^ 4 := Nat.pow_le_pow_right (by decide) hn
  have hbig : 2 ^ (2 ^ n) ≤ 2 ^ 16 := Nat.pow_le_pow_right (by decide) (by omega)
  intro d
  induction d with
  | zero =>
    intro fu k p seen way hfu hk hp hs hct
    obtain ⟨f, rfl⟩ : ∃ f, fu = f + 1 := ⟨fu - 1, by omega⟩
    have hfull := seen_full hs (by omega)
    have hall := all_pic hn
    by_cases h : p = goal
    · refine ⟨way, ?_, fun _ _ => rfl, fun w hw j x hx => ?_⟩
      · rw [f_Th_seekThrough, f_Th_seekThrough_body, dfs, if_pos h]
        simp (disch := omega) only [n_lt, n_le, n_eq, n_cl, n_sub, nI_add, pk_mul, n_subL, n_Lsub, n_neN, n_Nne, n_leN, n_ltN, n_Nlt, n_Nle, le_T, le_F, lt_T, lt_F, eq_T, eq_F, true_or, or_true, false_or, or_false, true_and, and_true, false_and, and_false, and_self, or_self, not_true_eq_false, not_false_eq_true, decide_eq_true_eq, decide_true, decide_false, Bool.false_eq_true, Bool.true_eq_false, eq_self, ↓reduceIte, Option.bind_some, mo_in, lit_0, lit_1, lit_2, lit_3, lit_4, lit_5, lit_6, lit_7, lit_8, lit_9, lit_10, lit_11, lit_12, lit_13, lit_14, lit_15, lit_16, lit_20, lit_22, lit_24, lit_28, lit_30, lit_31, lit_32, lit_39, lit_40, lit_42, lit_48, lit_50, lit_57, lit_60, lit_61, lit_62, lit_63, lit_64, lit_100, lit_120, lit_121, lit_122, lit_128, lit_130, lit_255, lit_256, lit_360, lit_1024, lit_2147483647, m1_pred, Nat.add_sub_cancel, lit_124, lit_38, lit_37, lit_33, lit_126, lit_59, lit_112, lit_108, lit_110, lit_104, lit_47, lit_43, lit_45, lit_41, lit_123, lit_49, lit_58, lit_68, h]
        rw [f_Th_seekThrough_L27, if_pos rfl]
        rw [if_pos (by rw [hfull]; exact hall.symm)]
        rfl
      · rw [dfs, if_pos h] at hw; cases hw; simp at hx
    · refine ⟨way, ?_, fun _ _ => rfl, fun w hw j x hx => ?_⟩
      · have loop : ∀ (e l fu : Nat), l + e = n → e < fu → f_Th_seekThrough_L47 (f_Th_seekThrough f) fu (nI p) (nI goal) (nI seen) (nI k) (nI l) (nI n) way = some (false, way) := by
          intro e
          induction e with
          | zero =>
            intro l fu hl hfu
            obtain ⟨g, rfl⟩ : ∃ g, fu = g + 1 := ⟨fu - 1, by omega⟩
            rw [f_Th_seekThrough_L47]
            simp (disch := omega) only [n_lt, n_le, n_eq, n_cl, n_sub, nI_add, pk_mul, n_subL, n_Lsub, n_neN, n_Nne, n_leN, n_ltN, n_Nlt, n_Nle, le_T, le_F, lt_T, lt_F, eq_T, eq_F, true_or, or_true, false_or, or_false, true_and, and_true, false_and, and_false, and_self, or_self, not_true_eq_false, not_false_eq_true, decide_eq_true_eq, decide_true, decide_false, Bool.false_eq_true, Bool.true_eq_false, eq_self, ↓reduceIte, Option.bind_some, mo_in, lit_0, lit_1, lit_2, lit_3, lit_4, lit_5, lit_6, lit_7, lit_8, lit_9, lit_10, lit_11, lit_12, lit_13, lit_14, lit_15, lit_16, lit_20, lit_22, lit_24, lit_28, lit_30, lit_31, lit_32, lit_39, lit_40, lit_42, lit_48, lit_50, lit_57, lit_60, lit_61, lit_62, lit_63, lit_64, lit_100, lit_120, lit_121, lit_122, lit_128, lit_130, lit_255, lit_256, lit_360, lit_1024, lit_2147483647, m1_pred, Nat.add_sub_cancel, lit_124, lit_38, lit_37, lit_33, lit_126, lit_59, lit_112, lit_108, lit_110, lit_104, lit_47, lit_43, lit_45, lit_41, lit_123, lit_49, lit_58, lit_68]
          | succ e ihe =>
            intro l fu hl hfu
            obtain ⟨g, rfl⟩ : ∃ g, fu = g + 1 := ⟨fu - 1, by omega⟩
            have hx := x_lt (l := l) hp (by omega)
            have hle : seen / 2 ^ (p ^^^ 2 ^ l) ≤ seen := Nat.div_le_self _ _
            have ht : seen.testBit (p ^^^ 2 ^ l) = true := by rw [hfull, Nat.testBit_two_pow_sub_one]; simp [hx]
            have hm := tb_mod seen (p ^^^ 2 ^ l)
            rw [if_pos ht] at hm
            rw [f_Th_seekThrough_L47]
            simp (disch := omega) only [n_lt, n_le, n_eq, n_cl, n_sub, nI_add, pk_mul, n_subL, n_Lsub, n_neN, n_Nne, n_leN, n_ltN, n_Nlt, n_Nle, le_T, le_F, lt_T, lt_F, eq_T, eq_F, true_or, or_true, false_or, or_false, true_and, and_true, false_and, and_false, and_self, or_self, not_true_eq_false, not_false_eq_true, decide_eq_true_eq, decide_true, decide_false, Bool.false_eq_true, Bool.true_eq_false, eq_self, ↓reduceIte, Option.bind_some, mo_in, lit_0, lit_1, lit_2, lit_3, lit_4, lit_5, lit_6, lit_7, lit_8, lit_9, lit_10, lit_11, lit_12, lit_13, lit_14, lit_15, lit_16, lit_20, lit_22, lit_24, lit_28, lit_30, lit_31, lit_32, lit_39, lit_40, lit_42, lit_48, lit_50, lit_57, lit_60, lit_61, lit_62, lit_63, lit_64, lit_100, lit_120, lit_121, lit_122, lit_128, lit_130, lit_255, lit_256, lit_360, lit_1024, lit_2147483647, m1_pred, Nat.add_sub_cancel, lit_124, lit_38, lit_37, lit_33, lit_126, lit_59, lit_112, lit_108, lit_110, lit_104, lit_47, lit_43, lit_45, lit_41, lit_123, lit_49, lit_58, lit_68, q_shl, fb_xorI, n_shr, n_and1, hm, f_Th_seekThrough_L107]
            exact ihe (l + 1) g (by omega) (by omega)
        have l0 := loop n 0 3000 (by omega) (by omega)
        rw [f_Th_seekThrough, f_Th_seekThrough_body, dfs, if_neg h]
        by_cases c : k < 15
        · simp (disch := omega) only [n_lt, n_le, n_eq, n_cl, n_sub, nI_add, pk_mul, n_subL, n_Lsub, n_neN, n_Nne, n_leN, n_ltN, n_Nlt, n_Nle, le_T, le_F, lt_T, lt_F, eq_T, eq_F, true_or, or_true, false_or, or_false, true_and, and_true, false_and, and_false, and_self, or_self, not_true_eq_false, not_false_eq_true, decide_eq_true_eq, decide_true, decide_false, Bool.false_eq_true, Bool.true_eq_false, eq_self, ↓reduceIte, Option.bind_some, mo_in, lit_0, lit_1, lit_2, lit_3, lit_4, lit_5, lit_6, lit_7, lit_8, lit_9, lit_10, lit_11, lit_12, lit_13, lit_14, lit_15, lit_16, lit_20, lit_22, lit_24, lit_28, lit_30, lit_31, lit_32, lit_39, lit_40, lit_42, lit_48, lit_50, lit_57, lit_60, lit_61, lit_62, lit_63, lit_64, lit_100, lit_120, lit_121, lit_122, lit_128, lit_130, lit_255, lit_256, lit_360, lit_1024, lit_2147483647, m1_pred, Nat.add_sub_cancel, lit_124, lit_38, lit_37, lit_33, lit_126, lit_59, lit_112, lit_108, lit_110, lit_104, lit_47, lit_43, lit_45, lit_41, lit_123, lit_49, lit_58, lit_68, l0]
          rfl
        · simp (disch := omega) only [n_lt, n_le, n_eq, n_cl, n_sub, nI_add, pk_mul, n_subL, n_Lsub, n_neN, n_Nne, n_leN, n_ltN, n_Nlt, n_Nle, le_T, le_F, lt_T, lt_F, eq_T, eq_F, true_or, or_true, false_or, or_false, true_and, and_true, false_and, and_false, and_self, or_self, not_true_eq_false, not_false_eq_true, decide_eq_true_eq, decide_true, decide_false, Bool.false_eq_true, Bool.true_eq_false, eq_self, ↓reduceIte, Option.bind_some, mo_in, lit_0, lit_1, lit_2, lit_3, lit_4, lit_5, lit_6, lit_7, lit_8, lit_9, lit_10, lit_11, lit_12, lit_13, lit_14, lit_15, lit_16, lit_20, lit_22, lit_24, lit_28, lit_30, lit_31, lit_32, lit_39, lit_40, lit_42, lit_48, lit_50, lit_57, lit_60, lit_61, lit_62, lit_63, lit_64, lit_100, lit_120, lit_121, lit_122, lit_128, lit_130, lit_255, lit_256, lit_360, lit_1024, lit_2147483647, m1_pred, Nat.add_sub_cancel, lit_124, lit_38, lit_37, lit_33, lit_126, lit_59, lit_112, lit_108, lit_110, lit_104, lit_47, lit_43, lit_45, lit_41, lit_123, lit_49, lit_58, lit_68, f_Th_seekThrough_L27]
          rfl
      · rw [dfs, if_neg h] at hw; cases hw
  | succ d ih =>
    intro fu k p seen way hfu hk hp hs hct
    obtain ⟨f, rfl⟩ : ∃ f, fu = f + 1 := ⟨fu - 1, by omega⟩
    have hpart := seen_part (N := 2 ^ n) (s := seen) (by omega)
    have hall := all_pic hn
    by_cases h : p = goal
    · refine ⟨way, ?_, fun _ _ => rfl, fun w hw j x hx => ?_⟩
      · rw [f_Th_seekThrough, f_Th_seekThrough_body, dfs, if_pos h]
        simp (disch := omega) only [n_lt, n_le, n_eq, n_cl, n_sub, nI_add, pk_mul, n_subL, n_Lsub, n_neN, n_Nne, n_leN, n_ltN, n_Nlt, n_Nle, le_T, le_F, lt_T, lt_F, eq_T, eq_F, true_or, or_true, false_or, or_false, true_and, and_true, false_and, and_false, and_self, or_self, not_true_eq_false, not_false_eq_true, decide_eq_true_eq, decide_true, decide_false, Bool.false_eq_true, Bool.true_eq_false, eq_self, ↓reduceIte, Option.bind_some, mo_in, lit_0, lit_1, lit_2, lit_3, lit_4, lit_5, lit_6, lit_7, lit_8, lit_9, lit_10, lit_11, lit_12, lit_13, lit_14, lit_15, lit_16, lit_20, lit_22, lit_24, lit_28, lit_30, lit_31, lit_32, lit_39, lit_40, lit_42, lit_48, lit_50, lit_57, lit_60, lit_61, lit_62, lit_63, lit_64, lit_100, lit_120, lit_121, lit_122, lit_128, lit_130, lit_255, lit_256, lit_360, lit_1024, lit_2147483647, m1_pred, Nat.add_sub_cancel, lit_124, lit_38, lit_37, lit_33, lit_126, lit_59, lit_112, lit_108, lit_110, lit_104, lit_47, lit_43, lit_45, lit_41, lit_123, lit_49, lit_58, lit_68, h]
        rw [f_Th_seekThrough_L27, if_pos rfl]
        rw [if_neg (fun z => hpart ?_)]
        · rfl
        · have h2 : 2 ^ (2 ^ n) - 1 < 2147483648 := by omega
          exact (nI_eq (by omega) h2).mp (z.trans hall)
      · rw [dfs, if_pos h] at hw; cases hw
    · have loop : ∀ (e l fu : Nat) (way : Nat → Int32), l + e = n → e < fu → ∃ way', f_Th_seekThrough_L47 (f_Th_seekThrough f) fu (nI p) (nI goal) (nI seen) (nI k) (nI l) (nI n) way = some ((dls (fun l => if seen.testBit (p ^^^ 2 ^ l) = true then none else dfs n goal d (p ^^^ 2 ^ l) (seen ||| 2 ^ (p ^^^ 2 ^ l))) e l).isSome, way') ∧ (∀ j, j < k → way' j = way j) ∧ ∀ w, dls (fun l => if seen.testBit (p ^^^ 2 ^ l) = true then none else dfs n goal d (p ^^^ 2 ^ l) (seen ||| 2 ^ (p ^^^ 2 ^ l))) e l = some w → ∀ j x, w[j]? = some x → way' (k + j) = nI x := by
        intro e
        induction e with
        | zero =>
          intro l fu way hl hfu
          obtain ⟨g, rfl⟩ : ∃ g, fu = g + 1 := ⟨fu - 1, by omega⟩
          refine ⟨way, ?_, fun _ _ => rfl, fun w hw => by cases hw⟩
          rw [f_Th_seekThrough_L47]
          simp (disch := omega) only [n_lt, n_le, n_eq, n_cl, n_sub, nI_add, pk_mul, n_subL, n_Lsub, n_neN, n_Nne, n_leN, n_ltN, n_Nlt, n_Nle, le_T, le_F, lt_T, lt_F, eq_T, eq_F, true_or, or_true, false_or, or_false, true_and, and_true, false_and, and_false, and_self, or_self, not_true_eq_false, not_false_eq_true, decide_eq_true_eq, decide_true, decide_false, Bool.false_eq_true, Bool.true_eq_false, eq_self, ↓reduceIte, Option.bind_some, mo_in, lit_0, lit_1, lit_2, lit_3, lit_4, lit_5, lit_6, lit_7, lit_8, lit_9, lit_10, lit_11, lit_12, lit_13, lit_14, lit_15, lit_16, lit_20, lit_22, lit_24, lit_28, lit_30, lit_31, lit_32, lit_39, lit_40, lit_42, lit_48, lit_50, lit_57, lit_60, lit_61, lit_62, lit_63, lit_64, lit_100, lit_120, lit_121, lit_122, lit_128, lit_130, lit_255, lit_256, lit_360, lit_1024, lit_2147483647, m1_pred, Nat.add_sub_cancel, lit_124, lit_38, lit_37, lit_33, lit_126, lit_59, lit_112, lit_108, lit_110, lit_104, lit_47, lit_43, lit_45, lit_41, lit_123, lit_49, lit_58, lit_68]
          rfl
        | succ e ihe =>
          intro l fu way hl hfu
          obtain ⟨g, rfl⟩ : ∃ g, fu = g + 1 := ⟨fu - 1, by omega⟩
          have hx := x_lt (l := l) hp (by omega)
          have hle : seen / 2 ^ (p ^^^ 2 ^ l) ≤ seen := Nat.div_le_self _ _
          have hm := tb_mod seen (p ^^^ 2 ^ l)
          cases ht : seen.testBit (p ^^^ 2 ^ l) with
          | true =>
            rw [if_pos ht] at hm
            obtain ⟨way', d1, d2, d3⟩ := ihe (l + 1) g way (by omega) (by omega)
            refine ⟨way', ?_, d2, fun w hw => d3 w ?_⟩
            · rw [f_Th_seekThrough_L47, dls]
              simp (disch := omega) only [n_lt, n_le, n_eq, n_cl, n_sub, nI_add, pk_mul, n_subL, n_Lsub, n_neN, n_Nne, n_leN, n_ltN, n_Nlt, n_Nle, le_T, le_F, lt_T, lt_F, eq_T, eq_F, true_or, or_true, false_or, or_false, true_and, and_true, false_and, and_false, and_self, or_self, not_true_eq_false, not_false_eq_true, decide_eq_true_eq, decide_true, decide_false, Bool.false_eq_true, Bool.true_eq_false, eq_self, ↓reduceIte, Option.bind_some, mo_in, lit_0, lit_1, lit_2, lit_3, lit_4, lit_5, lit_6, lit_7, lit_8, lit_9, lit_10, lit_11, lit_12, lit_13, lit_14, lit_15, lit_16, lit_20, lit_22, lit_24, lit_28, lit_30, lit_31, lit_32, lit_39, lit_40, lit_42, lit_48, lit_50, lit_57, lit_60, lit_61, lit_62, lit_63, lit_64, lit_100, lit_120, lit_121, lit_122, lit_128, lit_130, lit_255, lit_256, lit_360, lit_1024, lit_2147483647, m1_pred, Nat.add_sub_cancel, lit_124, lit_38, lit_37, lit_33, lit_126, lit_59, lit_112, lit_108, lit_110, lit_104, lit_47, lit_43, lit_45, lit_41, lit_123, lit_49, lit_58, lit_68, q_shl, fb_xorI, n_shr, n_and1, hm, f_Th_seekThrough_L107, ht]
              exact d1
            · rw [dls] at hw; simpa [ht] using hw
          | false =>
            rw [if_neg (by rw [ht]; decide)] at hm
            have hlt : seen ||| 2 ^ (p ^^^ 2 ^ l) < 2 ^ (2 ^ n) := Nat.or_lt_two_pow hs (Nat.pow_lt_pow_right (by decide) hx)
            obtain ⟨way1, r1, r2, r3⟩ := ih f (k + 1) (p ^^^ 2 ^ l) (seen ||| 2 ^ (p ^^^ 2 ^ l)) (upd way k (nI l)) (by omega) (by omega) hx hlt (by rw [seen_add hx ht, hct])
            cases hd : dfs n goal d (p ^^^ 2 ^ l) (seen ||| 2 ^ (p ^^^ 2 ^ l)) with
            | some w0 =>
              rw [hd] at r1
              refine ⟨way1, ?_, fun j hj => by rw [r2 j (by omega), pk_un (by omega)], fun w hw j x hj => ?_⟩
              · rw [f_Th_seekThrough_L47, dls]
                simp (disch := omega) only [n_lt, n_le, n_eq, n_cl, n_sub, nI_add, pk_mul, n_subL, n_Lsub, n_neN, n_Nne, n_leN, n_ltN, n_Nlt, n_Nle, le_T, le_F, lt_T, lt_F, eq_T, eq_F, true_or, or_true, false_or, or_false, true_and, and_true, false_and, and_false, and_self, or_self, not_true_eq_false, not_false_eq_true, decide_eq_true_eq, decide_true, decide_false, Bool.false_eq_true, Bool.true_eq_false, eq_self, ↓reduceIte, Option.bind_some, mo_in, lit_0, lit_1, lit_2, lit_3, lit_4, lit_5, lit_6, lit_7, lit_8, lit_9, lit_10, lit_11, lit_12, lit_13, lit_14, lit_15, lit_16, lit_20, lit_22, lit_24, lit_28, lit_30, lit_31, lit_32, lit_39, lit_40, lit_42, lit_48, lit_50, lit_57, lit_60, lit_61, lit_62, lit_63, lit_64, lit_100, lit_120, lit_121, lit_122, lit_128, lit_130, lit_255, lit_256, lit_360, lit_1024, lit_2147483647, m1_pred, Nat.add_sub_cancel, lit_124, lit_38, lit_37, lit_33, lit_126, lit_59, lit_112, lit_108, lit_110, lit_104, lit_47, lit_43, lit_45, lit_41, lit_123, lit_49, lit_58, lit_68, q_shl, fb_xorI, n_shr, n_and1, hm, fa_or, r1, ht, hd, Option.isSome_some]
              · rw [dls] at hw
                simp only [ht, hd, Bool.false_eq_true, if_false] at hw
                cases hw
                cases j with
                | zero =>
                  have e1 : l = x := by simpa using hj
                  rw [← e1, Nat.add_zero, r2 k (by omega), pk_us]
                | succ j =>
                  rw [show k + (j + 1) = k + 1 + j by omega]
                  exact r3 w0 hd j x (by simpa using hj)
            | none =>
              rw [hd] at r1
              obtain ⟨way', d1, d2, d3⟩ := ihe (l + 1) g way1 (by omega) (by omega)
              refine ⟨way', ?_, fun j hj => by rw [d2 j hj, r2 j (by omega), pk_un (by omega)], fun w hw => d3 w ?_⟩
              · rw [f_Th_seekThrough_L47, dls]
                simp (disch := omega) only [n_lt, n_le, n_eq, n_cl, n_sub, nI_add, pk_mul, n_subL, n_Lsub, n_neN, n_Nne, n_leN, n_ltN, n_Nlt, n_Nle, le_T, le_F, lt_T, lt_F, eq_T, eq_F, true_or, or_true, false_or, or_false, true_and, and_true, false_and, and_false, and_self, or_self, not_true_eq_false, not_false_eq_true, decide_eq_true_eq, decide_true, decide_false, Bool.false_eq_true, Bool.true_eq_false, eq_self, ↓reduceIte, Option.bind_some, mo_in, lit_0, lit_1, lit_2, lit_3, lit_4, lit_5, lit_6, lit_7, lit_8, lit_9, lit_10, lit_11, lit_12, lit_13, lit_14, lit_15, lit_16, lit_20, lit_22, lit_24, lit_28, lit_30, lit_31, lit_32, lit_39, lit_40, lit_42, lit_48, lit_50, lit_57, lit_60, lit_61, lit_62, lit_63, lit_64, lit_100, lit_120, lit_121, lit_122, lit_128, lit_130, lit_255, lit_256, lit_360, lit_1024, lit_2147483647, m1_pred, Nat.add_sub_cancel, lit_124, lit_38, lit_37, lit_33, lit_126, lit_59, lit_112, lit_108, lit_110, lit_104, lit_47, lit_43, lit_45, lit_41, lit_123, lit_49, lit_58, lit_68, q_shl, fb_xorI, n_shr, n_and1, hm, fa_or, r1, ht, hd, Option.isSome_none, f_Th_seekThrough_L107]
                exact d1
              · rw [dls] at hw; simpa [ht, hd] using hw
      obtain ⟨way', d1, d2, d3⟩ := loop n 0 3000 way (by omega) (by omega)
      refine ⟨way', ?_, d2, fun w hw => d3 w ?_⟩
      · rw [f_Th_seekThrough, f_Th_seekThrough_body, dfs, if_neg h]
        simp (disch := omega) only [n_lt, n_le, n_eq, n_cl, n_sub, nI_add, pk_mul, n_subL, n_Lsub, n_neN, n_Nne, n_leN, n_ltN, n_Nlt, n_Nle, le_T, le_F, lt_T, lt_F, eq_T, eq_F, true_or, or_true, false_or, or_false, true_and, and_true, false_and, and_false, and_self, or_self, not_true_eq_false, not_false_eq_true, decide_eq_true_eq, decide_true, decide_false, Bool.false_eq_true, Bool.true_eq_false, eq_self, ↓reduceIte, Option.bind_some, mo_in, lit_0, lit_1, lit_2, lit_3, lit_4, lit_5, lit_6, lit_7, lit_8, lit_9, lit_10, lit_11, lit_12, lit_13, lit_14, lit_15, lit_16, lit_20, lit_22, lit_24, lit_28, lit_30, lit_31, lit_32, lit_39, lit_40, lit_42, lit_48, lit_50, lit_57, lit_60, lit_61, lit_62, lit_63, lit_64, lit_100, lit_120, lit_121, lit_122, lit_128, lit_130, lit_255, lit_256, lit_360, lit_1024, lit_2147483647, m1_pred, Nat.add_sub_cancel, lit_124, lit_38, lit_37, lit_33, lit_126, lit_59, lit_112, lit_108, lit_110, lit_104, lit_47, lit_43, lit_45, lit_41, lit_123, lit_49, lit_58, lit_68]
        exact d1
      · rw [dfs, if_neg h] at hw; exact hw
theorem mo_thr {n goal : Nat} (hn1 : 1 ≤ n) (hn : n ≤ 4) (hg : goal < 2 ^ n) : ∀ (d fu k p seen : Nat) (way : Nat → Int32), d < fu → k + d + 1 = 2 ^ n → p < 2 ^ n → seen < 2 ^ (2 ^ n) → ∃ way', f_Mo_goesThrough fu (nI p) (nI goal) (nI seen) (nI k) (nI n) way = some ((dfs n goal d p seen).isSome, way') ∧ (∀ j, j < k → way' j = way j) ∧ ∀ w, dfs n goal d p seen = some w → ∀ j x, w[j]? = some x → way' (k + j) = nI x := by
  have h16 : 2 ^ n ≤ 2 ^ 4 := Nat.pow_le_pow_right (by decide) hn
  have hbig : 2 ^ (2 ^ n) ≤ 2 ^ 16 := Nat.pow_le_pow_right (by decide) (by omega)
  have e0 := mo_pics (show n ≤ 10 by omega)
  intro d
  induction d with
  | zero =>
    intro fu k p seen way hfu hk hp hs
    obtain ⟨f, rfl⟩ : ∃ f, fu = f + 1 := ⟨fu - 1, by omega⟩
    refine ⟨way, ?_, fun _ _ => rfl, fun w hw j x hx => ?_⟩
    · rw [f_Mo_goesThrough, f_Mo_goesThrough_body, dfs]
      by_cases h : p = goal
      · simp (disch := omega) only [n_lt, n_le, n_eq, n_cl, n_sub, nI_add, pk_mul, n_subL, n_Lsub, n_neN, n_Nne, n_leN, n_ltN, n_Nlt, n_Nle, le_T, le_F, lt_T, lt_F, eq_T, eq_F, true_or, or_true, false_or, or_false, true_and, and_true, false_and, and_false, and_self, or_self, not_true_eq_false, not_false_eq_true, decide_eq_true_eq, decide_true, decide_false, Bool.false_eq_true, Bool.true_eq_false, eq_self, ↓reduceIte, Option.bind_some, mo_in, lit_0, lit_1, lit_2, lit_3, lit_4, lit_5, lit_6, lit_7, lit_8, lit_9, lit_10, lit_11, lit_12, lit_13, lit_14, lit_15, lit_16, lit_20, lit_22, lit_24, lit_28, lit_30, lit_31, lit_32, lit_39, lit_40, lit_42, lit_48, lit_50, lit_57, lit_60, lit_61, lit_62, lit_63, lit_64, lit_100, lit_120, lit_121, lit_122, lit_128, lit_130, lit_255, lit_256, lit_360, lit_1024, lit_2147483647, m1_pred, Nat.add_sub_cancel, lit_124, lit_38, lit_37, lit_33, lit_126, lit_59, lit_112, lit_108, lit_110, lit_104, lit_47, lit_43, lit_45, lit_41, lit_123, lit_49, lit_58, lit_68, e0, h, Option.isSome_some]
      · simp (disch := omega) only [n_lt, n_le, n_eq, n_cl, n_sub, nI_add, pk_mul, n_subL, n_Lsub, n_neN, n_Nne, n_leN, n_ltN, n_Nlt, n_Nle, le_T, le_F, lt_T, lt_F, eq_T, eq_F, true_or, or_true, false_or, or_false, true_and, and_true, false_and, and_false, and_self, or_self, not_true_eq_false, not_false_eq_true, decide_eq_true_eq, decide_true, decide_false, Bool.false_eq_true, Bool.true_eq_false, eq_self, ↓reduceIte, Option.bind_some, mo_in, lit_0, lit_1, lit_2, lit_3, lit_4, lit_5, lit_6, lit_7, lit_8, lit_9, lit_10, lit_11, lit_12, lit_13, lit_14, lit_15, lit_16, lit_20, lit_22, lit_24, lit_28, lit_30, lit_31, lit_32, lit_39, lit_40, lit_42, lit_48, lit_50, lit_57, lit_60, lit_61, lit_62, lit_63, lit_64, lit_100, lit_120, lit_121, lit_122, lit_128, lit_130, lit_255, lit_256, lit_360, lit_1024, lit_2147483647, m1_pred, Nat.add_sub_cancel, lit_124, lit_38, lit_37, lit_33, lit_126, lit_59, lit_112, lit_108, lit_110, lit_104, lit_47, lit_43, lit_45, lit_41, lit_123, lit_49, lit_58, lit_68, e0, h, Option.isSome_none]
    · rw [dfs] at hw
      by_cases h : p = goal
      · rw [if_pos h] at hw; cases hw; simp at hx
      · rw [if_neg h] at hw; cases hw
  | succ d ih =>
    intro fu k p seen way hfu hk hp hs
    obtain ⟨f, rfl⟩ : ∃ f, fu = f + 1 := ⟨fu - 1, by omega⟩
    by_cases h : p = goal
    · refine ⟨way, ?_, fun _ _ => rfl, fun w hw j x hx => ?_⟩
      · rw [f_Mo_goesThrough, f_Mo_goesThrough_body, dfs, if_pos h]
        simp (disch := omega) only [n_lt, n_le, n_eq, n_cl, n_sub, nI_add, pk_mul, n_subL, n_Lsub, n_neN, n_Nne, n_leN, n_ltN, n_Nlt, n_Nle, le_T, le_F, lt_T, lt_F, eq_T, eq_F, true_or, or_true, false_or, or_false, true_and, and_true, false_and, and_false, and_self, or_self, not_true_eq_false, not_false_eq_true, decide_eq_true_eq, decide_true, decide_false, Bool.false_eq_true, Bool.true_eq_false, eq_self, ↓reduceIte, Option.bind_some, mo_in, lit_0, lit_1, lit_2, lit_3, lit_4, lit_5, lit_6, lit_7, lit_8, lit_9, lit_10, lit_11, lit_12, lit_13, lit_14, lit_15, lit_16, lit_20, lit_22, lit_24, lit_28, lit_30, lit_31, lit_32, lit_39, lit_40, lit_42, lit_48, lit_50, lit_57, lit_60, lit_61, lit_62, lit_63, lit_64, lit_100, lit_120, lit_121, lit_122, lit_128, lit_130, lit_255, lit_256, lit_360, lit_1024, lit_2147483647, m1_pred, Nat.add_sub_cancel, lit_124, lit_38, lit_37, lit_33, lit_126, lit_59, lit_112, lit_108, lit_110, lit_104, lit_47, lit_43, lit_45, lit_41, lit_123, lit_49, lit_58, lit_68, e0, h, Option.isSome_none]
      · rw [dfs, if_pos h] at hw; cases hw
    · have loop : ∀ (e l fu : Nat) (way : Nat → Int32), l + e = n → e < fu → ∃ way', f_Mo_goesThrough_L32 (f_Mo_goesThrough f) fu (nI p) (nI goal) (nI seen) (nI k) (nI l) (nI n) way = some ((dls (fun l => if seen.testBit (p ^^^ 2 ^ l) = true then none else dfs n goal d (p ^^^ 2 ^ l) (seen ||| 2 ^ (p ^^^ 2 ^ l))) e l).isSome, way') ∧ (∀ j, j < k → way' j = way j) ∧ ∀ w, dls (fun l => if seen.testBit (p ^^^ 2 ^ l) = true then none else dfs n goal d (p ^^^ 2 ^ l) (seen ||| 2 ^ (p ^^^ 2 ^ l))) e l = some w → ∀ j x, w[j]? = some x → way' (k + j) = nI x := by
        intro e
        induction e with
        | zero =>
          intro l fu way hl hfu
          obtain ⟨g, rfl⟩ : ∃ g, fu = g + 1 := ⟨fu - 1, by omega⟩
          refine ⟨way, ?_, fun _ _ => rfl, fun w hw => by cases hw⟩
          rw [f_Mo_goesThrough_L32]
          simp (disch := omega) only [n_lt, n_le, n_eq, n_cl, n_sub, nI_add, pk_mul, n_subL, n_Lsub, n_neN, n_Nne, n_leN, n_ltN, n_Nlt, n_Nle, le_T, le_F, lt_T, lt_F, eq_T, eq_F, true_or, or_true, false_or, or_false, true_and, and_true, false_and, and_false, and_self, or_self, not_true_eq_false, not_false_eq_true, decide_eq_true_eq, decide_true, decide_false, Bool.false_eq_true, Bool.true_eq_false, eq_self, ↓reduceIte, Option.bind_some, mo_in, lit_0, lit_1, lit_2, lit_3, lit_4, lit_5, lit_6, lit_7, lit_8, lit_9, lit_10, lit_11, lit_12, lit_13, lit_14, lit_15, lit_16, lit_20, lit_22, lit_24, lit_28, lit_30, lit_31, lit_32, lit_39, lit_40, lit_42, lit_48, lit_50, lit_57, lit_60, lit_61, lit_62, lit_63, lit_64, lit_100, lit_120, lit_121, lit_122, lit_128, lit_130, lit_255, lit_256, lit_360, lit_1024, lit_2147483647, m1_pred, Nat.add_sub_cancel, lit_124, lit_38, lit_37, lit_33, lit_126, lit_59, lit_112, lit_108, lit_110, lit_104, lit_47, lit_43, lit_45, lit_41, lit_123, lit_49, lit_58, lit_68]
          rfl
        | succ e ihe =>
          intro l fu way hl hfu
          obtain ⟨g, rfl⟩ : ∃ g, fu = g + 1 := ⟨fu - 1, by omega⟩
          have hx := x_lt (l := l) hp (by omega)
          have hle : seen / 2 ^ (p ^^^ 2 ^ l) ≤ seen := Nat.div_le_self _ _
          have hm := tb_mod seen (p ^^^ 2 ^ l)
          cases ht : seen.testBit (p ^^^ 2 ^ l) with
          | true =>
            rw [if_pos ht] at hm
            obtain ⟨way', d1, d2, d3⟩ := ihe (l + 1) g way (by omega) (by omega)
            refine ⟨way', ?_, d2, fun w hw => d3 w ?_⟩
            · rw [f_Mo_goesThrough_L32, dls]
              simp (disch := omega) only [n_lt, n_le, n_eq, n_cl, n_sub, nI_add, pk_mul, n_subL, n_Lsub, n_neN, n_Nne, n_leN, n_ltN, n_Nlt, n_Nle, le_T, le_F, lt_T, lt_F, eq_T, eq_F, true_or, or_true, false_or, or_false, true_and, and_true, false_and, and_false, and_self, or_self, not_true_eq_false, not_false_eq_true, decide_eq_true_eq, decide_true, decide_false, Bool.false_eq_true, Bool.true_eq_false, eq_self, ↓reduceIte, Option.bind_some, mo_in, lit_0, lit_1, lit_2, lit_3, lit_4, lit_5, lit_6, lit_7, lit_8, lit_9, lit_10, lit_11, lit_12, lit_13, lit_14, lit_15, lit_16, lit_20, lit_22, lit_24, lit_28, lit_30, lit_31, lit_32, lit_39, lit_40, lit_42, lit_48, lit_50, lit_57, lit_60, lit_61, lit_62, lit_63, lit_64, lit_100, lit_120, lit_121, lit_122, lit_128, lit_130, lit_255, lit_256, lit_360, lit_1024, lit_2147483647, m1_pred, Nat.add_sub_cancel, lit_124, lit_38, lit_37, lit_33, lit_126, lit_59, lit_112, lit_108, lit_110, lit_104, lit_47, lit_43, lit_45, lit_41, lit_123, lit_49, lit_58, lit_68, q_shl, fb_xorI, n_shr, n_and1, hm, f_Mo_goesThrough_L93, ht]
              exact d1
            · rw [dls] at hw; simpa [ht] using hw
          | false =>
            rw [if_neg (by rw [ht]; decide)] at hm
            have hlt : seen ||| 2 ^ (p ^^^ 2 ^ l) < 2 ^ (2 ^ n) := Nat.or_lt_two_pow hs (Nat.pow_lt_pow_right (by decide) hx)
            obtain ⟨way1, r1, r2, r3⟩ := ih f (k + 1) (p ^^^ 2 ^ l) (seen ||| 2 ^ (p ^^^ 2 ^ l)) (upd way k (nI l)) (by omega) (by omega) hx hlt
            cases hd : dfs n goal d (p ^^^ 2 ^ l) (seen ||| 2 ^ (p ^^^ 2 ^ l)) with
            | some w0 =>
              rw [hd] at r1
              refine ⟨way1, ?_, fun j hj => by rw [r2 j (by omega), pk_un (by omega)], fun w hw j x hj => ?_⟩
              · rw [f_Mo_goesThrough_L32, dls]
                simp (disch := omega) only [n_lt, n_le, n_eq, n_cl, n_sub, nI_add, pk_mul, n_subL, n_Lsub, n_neN, n_Nne, n_leN, n_ltN, n_Nlt, n_Nle, le_T, le_F, lt_T, lt_F, eq_T, eq_F, true_or, or_true, false_or, or_false, true_and, and_true, false_and, and_false, and_self, or_self, not_true_eq_false, not_false_eq_true, decide_eq_true_eq, decide_true, decide_false, Bool.false_eq_true, Bool.true_eq_false, eq_self, ↓reduceIte, Option.bind_some, mo_in, lit_0, lit_1, lit_2, lit_3, lit_4, lit_5, lit_6, lit_7, lit_8, lit_9, lit_10, lit_11, lit_12, lit_13, lit_14, lit_15, lit_16, lit_20, lit_22, lit_24, lit_28, lit_30, lit_31, lit_32, lit_39, lit_40, lit_42, lit_48, lit_50, lit_57, lit_60, lit_61, lit_62, lit_63, lit_64, lit_100, lit_120, lit_121, lit_122, lit_128, lit_130, lit_255, lit_256, lit_360, lit_1024, lit_2147483647, m1_pred, Nat.add_sub_cancel, lit_124, lit_38, lit_37, lit_33, lit_126, lit_59, lit_112, lit_108, lit_110, lit_104, lit_47, lit_43, lit_45, lit_41, lit_123, lit_49, lit_58, lit_68, q_shl, fb_xorI, n_shr, n_and1, hm, fa_or, r1, ht, hd, Option.isSome_some]
              · rw [dls] at hw
                simp only [ht, hd, Bool.false_eq_true, if_false] at hw
                cases hw
                cases j with
                | zero =>
                  have e1 : l = x := by simpa using hj
                  rw [← e1, Nat.add_zero, r2 k (by omega), pk_us]
                | succ j =>
                  rw [show k + (j + 1) = k + 1 + j by omega]
                  exact r3 w0 hd j x (by simpa using hj)
            | none =>
              rw [hd] at r1
              obtain ⟨way', d1, d2, d3⟩ := ihe (l + 1) g way1 (by omega) (by omega)
              refine ⟨way', ?_, fun j hj => by rw [d2 j hj, r2 j (by omega), pk_un (by omega)], fun w hw => d3 w ?_⟩
              · rw [f_Mo_goesThrough_L32, dls]
                simp (disch := omega) only [n_lt, n_le, n_eq, n_cl, n_sub, nI_add, pk_mul, n_subL, n_Lsub, n_neN, n_Nne, n_leN, n_ltN, n_Nlt, n_Nle, le_T, le_F, lt_T, lt_F, eq_T, eq_F, true_or, or_true, false_or, or_false, true_and, and_true, false_and, and_false, and_self, or_self, not_true_eq_false, not_false_eq_true, decide_eq_true_eq, decide_true, decide_false, Bool.false_eq_true, Bool.true_eq_false, eq_self, ↓reduceIte, Option.bind_some, mo_in, lit_0, lit_1, lit_2, lit_3, lit_4, lit_5, lit_6, lit_7, lit_8, lit_9, lit_10, lit_11, lit_12, lit_13, lit_14, lit_15, lit_16, lit_20, lit_22, lit_24, lit_28, lit_30, lit_31, lit_32, lit_39, lit_40, lit_42, lit_48, lit_50, lit_57, lit_60, lit_61, lit_62, lit_63, lit_64, lit_100, lit_120, lit_121, lit_122, lit_128, lit_130, lit_255, lit_256, lit_360, lit_1024, lit_2147483647, m1_pred, Nat.add_sub_cancel, lit_124, lit_38, lit_37, lit_33, lit_126, lit_59, lit_112, lit_108, lit_110, lit_104, lit_47, lit_43, lit_45, lit_41, lit_123, lit_49, lit_58, lit_68, q_shl, fb_xorI, n_shr, n_and1, hm, fa_or, r1, ht, hd, Option.isSome_none, f_Mo_goesThrough_L93]
                exact d1
              · rw [dls] at hw; simpa [ht, hd] using hw
      obtain ⟨way', d1, d2, d3⟩ := loop n 0 3000 way (by omega) (by omega)
      refine ⟨way', ?_, d2, fun w hw => d3 w ?_⟩
      · rw [f_Mo_goesThrough, f_Mo_goesThrough_body, dfs, if_neg h]
        simp (disch := omega) only [n_lt, n_le, n_eq, n_cl, n_sub, nI_add, pk_mul, n_subL, n_Lsub, n_neN, n_Nne, n_leN, n_ltN, n_Nlt, n_Nle, le_T, le_F, lt_T, lt_F, eq_T, eq_F, true_or, or_true, false_or, or_false, true_and, and_true, false_and, and_false, and_self, or_self, not_true_eq_false, not_false_eq_true, decide_eq_true_eq, decide_true, decide_false, Bool.false_eq_true, Bool.true_eq_false, eq_self, ↓reduceIte, Option.bind_some, mo_in, lit_0, lit_1, lit_2, lit_3, lit_4, lit_5, lit_6, lit_7, lit_8, lit_9, lit_10, lit_11, lit_12, lit_13, lit_14, lit_15, lit_16, lit_20, lit_22, lit_24, lit_28, lit_30, lit_31, lit_32, lit_39, lit_40, lit_42, lit_48, lit_50, lit_57, lit_60, lit_61, lit_62, lit_63, lit_64, lit_100, lit_120, lit_121, lit_122, lit_128, lit_130, lit_255, lit_256, lit_360, lit_1024, lit_2147483647, m1_pred, Nat.add_sub_cancel, lit_124, lit_38, lit_37, lit_33, lit_126, lit_59, lit_112, lit_108, lit_110, lit_104, lit_47, lit_43, lit_45, lit_41, lit_123, lit_49, lit_58, lit_68, e0]
        exact d1
      · rw [dfs, if_neg h] at hw; exact hw
theorem lt_m1 {x : Int32} (h : x < 0) (h2 : ¬ x = -1) : x < -1 := by
  apply Int32.lt_iff_toInt_lt.mpr
  have h3 := Int32.lt_iff_toInt_lt.mp h
  rw [show (0 : Int32).toInt = 0 from rfl] at h3
  rw [show (-1 : Int32).toInt = -1 by decide]
  have h4 : ¬ x.toInt = -1 := fun z => h2 (Int32.toInt_inj.mp (by rw [z]; decide))
  omega
theorem ok_through {t : Nat} {x_L_wall_lamps : Int32} {x_L_wall_picture : Int32} {x_L_wall_night : Int32} {x_L_wall_spent : Int32} {x_L_wall_had_words : Nat → Int64} {x_L_wall_told_words : Nat → Int64} {x_L_wall_last : Nat → Int32} {x_L_wall_often : Nat → Int32} {x_M_lamps : Int32} {x_M_at : Int32} {x_M_night : Int32} {x_M_spent : Int32} {x_M_had : Nat → Int32} {x_M_told : Nat → Int32} {x_M_last : Nat → Int32} {x_M_often : Nat → Int32} {x_M_hasBegun : Bool} {x_L_thought_wall_lamps : Int32} {x_L_thought_way : Nat → Int32} {x_M_way : Nat → Int32} (ht : t < 64) (p1 : Int32) (p2 : Int32) (p3 : Int32) (hW : R_wall t x_L_wall_lamps x_L_wall_picture x_L_wall_night x_L_wall_spent x_L_wall_had_words x_L_wall_told_words x_L_wall_last x_L_wall_often x_M_lamps x_M_at x_M_night x_M_spent x_M_had x_M_told x_M_last x_M_often x_M_hasBegun) : ∃ (r : Int32) (u_L_thought_wall_lamps : Int32) (u_L_thought_way : Nat → Int32) (u_M_way : Nat → Int32), f_OL_through p1 p2 p3 x_L_wall_lamps x_L_thought_wall_lamps x_L_thought_way = some (r, u_L_thought_wall_lamps, u_L_thought_way) ∧ f_Mo_through p1 p2 p3 x_M_lamps x_M_way = some (r, u_M_way) := by
  obtain ⟨⟨n, p, k, h1, h10, hp, hk, rfl, e2, e3, hb1, hb2⟩, rfl, _, _, _, _, _, _⟩ := hW
  have hpow := p_pow h10
  rcases n_cases p1 with a | ⟨a, ha, rfl⟩
  · simp (disch := omega) only [n_lt, n_le, n_eq, n_cl, n_sub, nI_add, pk_mul, n_subL, n_Lsub, n_neN, n_Nne, n_leN, n_ltN, n_Nlt, n_Nle, le_T, le_F, lt_T, lt_F, eq_T, eq_F, true_or, or_true, false_or, or_false, true_and, and_true, false_and, and_false, and_self, or_self, not_true_eq_false, not_false_eq_true, decide_eq_true_eq, decide_true, decide_false, Bool.false_eq_true, Bool.true_eq_false, eq_self, ↓reduceIte, Option.bind_some, mo_in, lit_0, lit_1, lit_2, lit_3, lit_4, lit_5, lit_6, lit_7, lit_8, lit_9, lit_10, lit_11, lit_12, lit_13, lit_14, lit_15, lit_16, lit_20, lit_22, lit_24, lit_28, lit_30, lit_31, lit_32, lit_39, lit_40, lit_42, lit_48, lit_50, lit_57, lit_60, lit_61, lit_62, lit_63, lit_64, lit_100, lit_120, lit_121, lit_122, lit_128, lit_130, lit_255, lit_256, lit_360, lit_1024, lit_2147483647, f_OL_through, f_Mo_through, wa_pic_neg a, mo_pic_neg a h10]
    exact ⟨_, _, _, _, rfl, rfl⟩
  have i1 := wa_pic ha h10
  have i2 := mo_pic ha h10
  by_cases han : a < 2 ^ n
  rotate_left
  · simp (disch := omega) only [n_lt, n_le, n_eq, n_cl, n_sub, nI_add, pk_mul, n_subL, n_Lsub, n_neN, n_Nne, n_leN, n_ltN, n_Nlt, n_Nle, le_T, le_F, lt_T, lt_F, eq_T, eq_F, true_or, or_true, false_or, or_false, true_and, and_true, false_and, and_false, and_self, or_self, not_true_eq_false, not_false_eq_true, decide_eq_true_eq, decide_true, decide_false, Bool.false_eq_true, Bool.true_eq_false, eq_self, ↓reduceIte, Option.bind_some, mo_in, lit_0, lit_1, lit_2, lit_3, lit_4, lit_5, lit_6, lit_7, lit_8, lit_9, lit_10, lit_11, lit_12, lit_13, lit_14, lit_15, lit_16, lit_20, lit_22, lit_24, lit_28, lit_30, lit_31, lit_32, lit_39, lit_40, lit_42, lit_48, lit_50, lit_57, lit_60, lit_61, lit_62, lit_63, lit_64, lit_100, lit_120, lit_121, lit_122, lit_128, lit_130, lit_255, lit_256, lit_360, lit_1024, lit_2147483647, f_OL_through, f_Mo_through, i1, i2]
    exact ⟨_, _, _, _, rfl, rfl⟩
  rcases n_cases p2 with b | ⟨b, hb, rfl⟩
  · simp (disch := omega) only [n_lt, n_le, n_eq, n_cl, n_sub, nI_add, pk_mul, n_subL, n_Lsub, n_neN, n_Nne, n_leN, n_ltN, n_Nlt, n_Nle, le_T, le_F, lt_T, lt_F, eq_T, eq_F, true_or, or_true, false_or, or_false, true_and, and_true, false_and, and_false, and_self, or_self, not_true_eq_false, not_false_eq_true, decide_eq_true_eq, decide_true, decide_false, Bool.false_eq_true, Bool.true_eq_false, eq_self, ↓reduceIte, Option.bind_some, mo_in, lit_0, lit_1, lit_2, lit_3, lit_4, lit_5, lit_6, lit_7, lit_8, lit_9, lit_10, lit_11, lit_12, lit_13, lit_14, lit_15, lit_16, lit_20, lit_22, lit_24, lit_28, lit_30, lit_31, lit_32, lit_39, lit_40, lit_42, lit_48, lit_50, lit_57, lit_60, lit_61, lit_62, lit_63, lit_64, lit_100, lit_120, lit_121, lit_122, lit_128, lit_130, lit_255, lit_256, lit_360, lit_1024, lit_2147483647, f_OL_through, f_Mo_through, i1, i2, wa_pic_neg b, mo_pic_neg b h10]
    exact ⟨_, _, _, _, rfl, rfl⟩
  have i3 := wa_pic hb h10
  have i4 := mo_pic hb h10
  by_cases hbn : b < 2 ^ n
  rotate_left
  · simp (disch := omega) only [n_lt, n_le, n_eq, n_cl, n_sub, nI_add, pk_mul, n_subL, n_Lsub, n_neN, n_Nne, n_leN, n_ltN, n_Nlt, n_Nle, le_T, le_F, lt_T, lt_F, eq_T, eq_F, true_or, or_true, false_or, or_false, true_and, and_true, false_and, and_false, and_self, or_self, not_true_eq_false, not_false_eq_true, decide_eq_true_eq, decide_true, decide_false, Bool.false_eq_true, Bool.true_eq_false, eq_self, ↓reduceIte, Option.bind_some, mo_in, lit_0, lit_1, lit_2, lit_3, lit_4, lit_5, lit_6, lit_7, lit_8, lit_9, lit_10, lit_11, lit_12, lit_13, lit_14, lit_15, lit_16, lit_20, lit_22, lit_24, lit_28, lit_30, lit_31, lit_32, lit_39, lit_40, lit_42, lit_48, lit_50, lit_57, lit_60, lit_61, lit_62, lit_63, lit_64, lit_100, lit_120, lit_121, lit_122, lit_128, lit_130, lit_255, lit_256, lit_360, lit_1024, lit_2147483647, f_OL_through, f_Mo_through, i1, i2, i3, i4]
    exact ⟨_, _, _, _, rfl, rfl⟩
  have hx := x_lt1024 (show a < 1024 by omega) (show b < 1024 by omega)
  have c1 := ji_count (n := a ^^^ b) (by omega)
  rw [bits_10 _ hx] at c1
  have c2 := lit_all _ hx
  have c3 := lw_bits_le (a ^^^ b) 10
  have c4 := n_rem (a := lw_bits (a ^^^ b) 10) (by omega) 2 (by omega) (by omega)
  have c5 := mo_pics h10
  have c6 : nI (lw_bits (a ^^^ b) 10) - nI (lw_bits (a ^^^ b) 10) / (2 : Int32) * (2 : Int32) = nI (lw_bits (a ^^^ b) 10 % 2) := c4
  have c7 : nI (lw_bits (a ^^^ b) 10) - nI (lw_bits (a ^^^ b) 10) / nI 2 * nI 2 = nI (lw_bits (a ^^^ b) 10 % 2) := c4
  by_cases hm : p3 = -1
  · subst hm
    have m1 : (-nI 1 < -nI 1) = False := eq_false (by decide)
    have m2 : (-nI 1 ≤ nI (2 ^ n) - nI 2) = True := eq_true (by
      rw [Int32.le_iff_toInt_le, n_subT (by omega) (by omega), n_negT (by omega)]
      have : 2 ^ 1 ≤ 2 ^ n := Nat.pow_le_pow_right (by decide) h1
      omega)
    have m3 : (nI 0 ≤ -nI 1) = False := eq_false (by decide)
    have m4 : (-nI 1 < nI (2 ^ n - 1)) = True := n_Nlt (by omega) (by omega) (by omega)
    have h2n : 2 ^ 1 ≤ 2 ^ n := Nat.pow_le_pow_right (by decide) h1
    have m5 : (-nI 1 ≤ nI (2 ^ n - 2)) = True := n_Nle (by omega) (by omega)
    by_cases hodd : lw_bits (a ^^^ b) 10 % 2 = 1
    · simp (disch := omega) only [n_lt, n_le, n_eq, n_cl, n_sub, nI_add, pk_mul, n_subL, n_Lsub, n_neN, n_Nne, n_leN, n_ltN, n_Nlt, n_Nle, le_T, le_F, lt_T, lt_F, eq_T, eq_F, true_or, or_true, false_or, or_false, true_and, and_true, false_and, and_false, and_self, or_self, not_true_eq_false, not_false_eq_true, decide_eq_true_eq, decide_true, decide_false, Bool.false_eq_true, Bool.true_eq_false, eq_self, ↓reduceIte, Option.bind_some, mo_in, lit_0, lit_1, lit_2, lit_3, lit_4, lit_5, lit_6, lit_7, lit_8, lit_9, lit_10, lit_11, lit_12, lit_13, lit_14, lit_15, lit_16, lit_20, lit_22, lit_24, lit_28, lit_30, lit_31, lit_32, lit_39, lit_40, lit_42, lit_48, lit_50, lit_57, lit_60, lit_61, lit_62, lit_63, lit_64, lit_100, lit_120, lit_121, lit_122, lit_128, lit_130, lit_255, lit_256, lit_360, lit_1024, lit_2147483647, f_OL_through, f_OL_through_L61, f_Mo_through, f_Mo_through_L50, i1, i2, i3, i4, m1, m2, m3, m4, m5, q_shl, fb_xorI, c1, c2, c5, c7, hodd]
      exact ⟨_, _, _, _, rfl, rfl⟩
    · simp (disch := omega) only [n_lt, n_le, n_eq, n_cl, n_sub, nI_add, pk_mul, n_subL, n_Lsub, n_neN, n_Nne, n_leN, n_ltN, n_Nlt, n_Nle, le_T, le_F, lt_T, lt_F, eq_T, eq_F, true_or, or_true, false_or, or_false, true_and, and_true, false_and, and_false, and_self, or_self, not_true_eq_false, not_false_eq_true, decide_eq_true_eq, decide_true, decide_false, Bool.false_eq_true, Bool.true_eq_false, eq_self, ↓reduceIte, Option.bind_some, mo_in, lit_0, lit_1, lit_2, lit_3, lit_4, lit_5, lit_6, lit_7, lit_8, lit_9, lit_10, lit_11, lit_12, lit_13, lit_14, lit_15, lit_16, lit_20, lit_22, lit_24, lit_28, lit_30, lit_31, lit_32, lit_39, lit_40, lit_42, lit_48, lit_50, lit_57, lit_60, lit_61, lit_62, lit_63, lit_64, lit_100, lit_120, lit_121, lit_122, lit_128, lit_130, lit_255, lit_256, lit_360, lit_1024, lit_2147483647, f_OL_through, f_OL_through_L61, f_Mo_through, f_Mo_through_L50, i1, i2, i3, i4, m1, m2, m3, m4, m5, q_shl, fb_xorI, c1, c2, c5, c7, hodd]
      exact ⟨_, _, _, _, rfl, rfl⟩
  rcases n_cases p3 with c | ⟨i, hi, rfl⟩
  · have m1 : (p3 < -nI 1) = True := eq_true (lt_m1 c hm)
    simp (disch := omega) only [n_lt, n_le, n_eq, n_cl, n_sub, nI_add, pk_mul, n_subL, n_Lsub, n_neN, n_Nne, n_leN, n_ltN, n_Nlt, n_Nle, le_T, le_F, lt_T, lt_F, eq_T, eq_F, true_or, or_true, false_or, or_false, true_and, and_true, false_and, and_false, and_self, or_self, not_true_eq_false, not_false_eq_true, decide_eq_true_eq, decide_true, decide_false, Bool.false_eq_true, Bool.true_eq_false, eq_self, ↓reduceIte, Option.bind_some, mo_in, lit_0, lit_1, lit_2, lit_3, lit_4, lit_5, lit_6, lit_7, lit_8, lit_9, lit_10, lit_11, lit_12, lit_13, lit_14, lit_15, lit_16, lit_20, lit_22, lit_24, lit_28, lit_30, lit_31, lit_32, lit_39, lit_40, lit_42, lit_48, lit_50, lit_57, lit_60, lit_61, lit_62, lit_63, lit_64, lit_100, lit_120, lit_121, lit_122, lit_128, lit_130, lit_255, lit_256, lit_360, lit_1024, lit_2147483647, f_OL_through, f_Mo_through, i1, i2, i3, i4, m1]
    exact ⟨_, _, _, _, rfl, rfl⟩
  have h2n : 2 ^ 1 ≤ 2 ^ n := Nat.pow_le_pow_right (by decide) h1
  by_cases hin : i + 2 ≤ 2 ^ n
  rotate_left
  · simp (disch := omega) only [n_lt, n_le, n_eq, n_cl, n_sub, nI_add, pk_mul, n_subL, n_Lsub, n_neN, n_Nne, n_leN, n_ltN, n_Nlt, n_Nle, le_T, le_F, lt_T, lt_F, eq_T, eq_F, true_or, or_true, false_or, or_false, true_and, and_true, false_and, and_false, and_self, or_self, not_true_eq_false, not_false_eq_true, decide_eq_true_eq, decide_true, decide_false, Bool.false_eq_true, Bool.true_eq_false, eq_self, ↓reduceIte, Option.bind_some, mo_in, lit_0, lit_1, lit_2, lit_3, lit_4, lit_5, lit_6, lit_7, lit_8, lit_9, lit_10, lit_11, lit_12, lit_13, lit_14, lit_15, lit_16, lit_20, lit_22, lit_24, lit_28, lit_30, lit_31, lit_32, lit_39, lit_40, lit_42, lit_48, lit_50, lit_57, lit_60, lit_61, lit_62, lit_63, lit_64, lit_100, lit_120, lit_121, lit_122, lit_128, lit_130, lit_255, lit_256, lit_360, lit_1024, lit_2147483647, f_OL_through, f_Mo_through, i1, i2, i3, i4, q_shl, c5]
    exact ⟨_, _, _, _, rfl, rfl⟩
  by_cases hn4 : n ≤ 4
  rotate_left
  · by_cases hodd : lw_bits (a ^^^ b) 10 % 2 = 1
    · simp (disch := omega) only [n_lt, n_le, n_eq, n_cl, n_sub, nI_add, pk_mul, n_subL, n_Lsub, n_neN, n_Nne, n_leN, n_ltN, n_Nlt, n_Nle, le_T, le_F, lt_T, lt_F, eq_T, eq_F, true_or, or_true, false_or, or_false, true_and, and_true, false_and, and_false, and_self, or_self, not_true_eq_false, not_false_eq_true, decide_eq_true_eq, decide_true, decide_false, Bool.false_eq_true, Bool.true_eq_false, eq_self, ↓reduceIte, Option.bind_some, mo_in, lit_0, lit_1, lit_2, lit_3, lit_4, lit_5, lit_6, lit_7, lit_8, lit_9, lit_10, lit_11, lit_12, lit_13, lit_14, lit_15, lit_16, lit_20, lit_22, lit_24, lit_28, lit_30, lit_31, lit_32, lit_39, lit_40, lit_42, lit_48, lit_50, lit_57, lit_60, lit_61, lit_62, lit_63, lit_64, lit_100, lit_120, lit_121, lit_122, lit_128, lit_130, lit_255, lit_256, lit_360, lit_1024, lit_2147483647, f_OL_through, f_OL_through_L61, f_Mo_through, f_Mo_through_L50, i1, i2, i3, i4, q_shl, fb_xorI, c1, c2, c5, c7, hodd]
      exact ⟨_, _, _, _, rfl, rfl⟩
    · simp (disch := omega) only [n_lt, n_le, n_eq, n_cl, n_sub, nI_add, pk_mul, n_subL, n_Lsub, n_neN, n_Nne, n_leN, n_ltN, n_Nlt, n_Nle, le_T, le_F, lt_T, lt_F, eq_T, eq_F, true_or, or_true, false_or, or_false, true_and, and_true, false_and, and_false, and_self, or_self, not_true_eq_false, not_false_eq_true, decide_eq_true_eq, decide_true, decide_false, Bool.false_eq_true, Bool.true_eq_false, eq_self, ↓reduceIte, Option.bind_some, mo_in, lit_0, lit_1, lit_2, lit_3, lit_4, lit_5, lit_6, lit_7, lit_8, lit_9, lit_10, lit_11, lit_12, lit_13, lit_14, lit_15, lit_16, lit_20, lit_22, lit_24, lit_28, lit_30, lit_31, lit_32, lit_39, lit_40, lit_42, lit_48, lit_50, lit_57, lit_60, lit_61, lit_62, lit_63, lit_64, lit_100, lit_120, lit_121, lit_122, lit_128, lit_130, lit_255, lit_256, lit_360, lit_1024, lit_2147483647, f_OL_through, f_OL_through_L61, f_Mo_through, f_Mo_through_L50, i1, i2, i3, i4, q_shl, fb_xorI, c1, c2, c5, c7, hodd]
      exact ⟨_, _, _, _, rfl, rfl⟩
  by_cases hodd : lw_bits (a ^^^ b) 10 % 2 = 1
  rotate_left
  · simp (disch := omega) only [n_lt, n_le, n_eq, n_cl, n_sub, nI_add, pk_mul, n_subL, n_Lsub, n_neN, n_Nne, n_leN, n_ltN, n_Nlt, n_Nle, le_T, le_F, lt_T, lt_F, eq_T, eq_F, true_or, or_true, false_or, or_false, true_and, and_true, false_and, and_false, and_self, or_self, not_true_eq_false, not_false_eq_true, decide_eq_true_eq, decide_true, decide_false, Bool.false_eq_true, Bool.true_eq_false, eq_self, ↓reduceIte, Option.bind_some, mo_in, lit_0, lit_1, lit_2, lit_3, lit_4, lit_5, lit_6, lit_7, lit_8, lit_9, lit_10, lit_11, lit_12, lit_13, lit_14, lit_15, lit_16, lit_20, lit_22, lit_24, lit_28, lit_30, lit_31, lit_32, lit_39, lit_40, lit_42, lit_48, lit_50, lit_57, lit_60, lit_61, lit_62, lit_63, lit_64, lit_100, lit_120, lit_121, lit_122, lit_128, lit_130, lit_255, lit_256, lit_360, lit_1024, lit_2147483647, f_OL_through, f_OL_through_L61, f_Mo_through, f_Mo_through_L50, i1, i2, i3, i4, q_shl, fb_xorI, c1, c2, c5, c7, hodd]
    exact ⟨_, _, _, _, rfl, rfl⟩
  have h16 : 2 ^ n ≤ 2 ^ 4 := Nat.pow_le_pow_right (by decide) hn4
  have hs0 : 2 ^ a < 2 ^ (2 ^ n) := Nat.pow_lt_pow_right (by decide) han
  have hct0 : fb_ct (fun i => (2 ^ a).testBit i) (2 ^ n) = 0 + 1 := by
    have := seen_add (N := 2 ^ n) (q := a) (s := 0) han (by simp)
    rw [Nat.zero_or] at this
    rw [this, fb_ct_zero.mpr (fun k hk => by simp)]
  obtain ⟨w1, d1, _, d3⟩ := cl_thr h1 hn4 hbn (2 ^ n - 1) 20 0 a (2 ^ a) x_L_thought_way (by omega) (by omega) han hs0 hct0
  obtain ⟨w2, f1, _, f3⟩ := mo_thr h1 hn4 hbn (2 ^ n - 1) 20 0 a (2 ^ a) x_M_way (by omega) (by omega) han hs0
  have hsome := dfs_all n (by omega) h1 a han b hbn hodd
  obtain ⟨w, hw⟩ := Option.isSome_iff_exists.mp hsome
  have hlen := dfs_len _ _ _ _ hw
  obtain ⟨x, hx2⟩ : ∃ x, w[i]? = some x := ⟨w[i]'(by omega), List.getElem?_eq_getElem (by omega)⟩
  have g1 := d3 w hw i x hx2
  have g2 := f3 w hw i x hx2
  rw [Nat.zero_add] at g1 g2
  rw [hsome] at d1 f1
  simp (disch := omega) only [n_lt, n_le, n_eq, n_cl, n_sub, nI_add, pk_mul, n_subL, n_Lsub, n_neN, n_Nne, n_leN, n_ltN, n_Nlt, n_Nle, le_T, le_F, lt_T, lt_F, eq_T, eq_F, true_or, or_true, false_or, or_false, true_and, and_true, false_and, and_false, and_self, or_self, not_true_eq_false, not_false_eq_true, decide_eq_true_eq, decide_true, decide_false, Bool.false_eq_true, Bool.true_eq_false, eq_self, ↓reduceIte, Option.bind_some, mo_in, lit_0, lit_1, lit_2, lit_3, lit_4, lit_5, lit_6, lit_7, lit_8, lit_9, lit_10, lit_11, lit_12, lit_13, lit_14, lit_15, lit_16, lit_20, lit_22, lit_24, lit_28, lit_30, lit_31, lit_32, lit_39, lit_40, lit_42, lit_48, lit_50, lit_57, lit_60, lit_61, lit_62, lit_63, lit_64, lit_100, lit_120, lit_121, lit_122, lit_128, lit_130, lit_255, lit_256, lit_360, lit_1024, lit_2147483647, f_OL_through, f_OL_through_L61, f_Th_lampThrough, f_Mo_through, f_Mo_through_L50, i1, i2, i3, i4, q_shl, fb_xorI, c1, c2, c5, c7, hodd, d1, f1, g1, g2]
  exact ⟨_, _, _, _, rfl, rfl⟩
