/-! PURE: which lamps may be changed, both sides; a step, and back -/
theorem q_shl {l : Nat} (h : l < 31) : nI 1 <<< (nI l &&& nI 31) = nI (2 ^ l) := by
  have h2 : 2 ^ l ≤ 2 ^ 30 := Nat.pow_le_pow_right (by decide) (by omega)
  have e := n_shl (a := 1) (m := l) h (by omega)
  rw [Nat.one_mul] at e
  exact e
theorem x_lt {n p l : Nat} (hp : p < 2 ^ n) (hl : l < n) : p ^^^ 2 ^ l < 2 ^ n := Nat.xor_lt_two_pow hp (Nat.pow_lt_pow_right (by decide) hl)
theorem x_back (p a : Nat) : p ^^^ a ^^^ a = p := by rw [Nat.xor_assoc, Nat.xor_self, Nat.xor_zero]
/-- of a picture: one beside it, but p, was had -/
def bes (n p : Nat) (H : Nat → Bool) (q : Nat) : Bool := (List.range' 0 n).any (fun j => decide (¬ q ^^^ 2 ^ j = p) && H (q ^^^ 2 ^ j))
/-- a lamp may be changed -/
def al (n : Nat) (rest shy : Int32) (B : Nat → Bool) (p k : Nat) (H : Nat → Bool) (la : Nat → Int32) (l : Nat) : Bool :=
  !(decide (¬ la l = -nI 2 ∧ ¬ rest < nI (k + 1) - la l)) && (!H (p ^^^ 2 ^ l) && (!B (p ^^^ 2 ^ l) && (decide (shy = nI 0) || !bes n p H (p ^^^ 2 ^ l))))
def hs (H : Nat → Bool) (q : Nat) : Nat → Bool := fun r => H r || decide (r = q)
def cwk (p k : Nat) (H : Nat → Bool) (la : Nat → Int32) (pic night : Int32) (w : Nat → Int64) (last : Nat → Int32) : Prop := pic = nI p ∧ night = nI k ∧ (∀ q, q < 1024 → bitw w q = H q) ∧ ∀ j, j < 10 → last j = la j
def mwk (p k : Nat) (H : Nat → Bool) (la : Nat → Int32) (at_ night : Int32) (mhad mlast : Nat → Int32) : Prop := at_ = nI p ∧ night = nI k ∧ (∀ q, q < 1024 → mhad q = b2i (H q)) ∧ ∀ j, j < 10 → mlast j = la j
/-- what is fit to be gone on from -/
def vd (n p k : Nat) (la : Nat → Int32) : Prop := 1 ≤ n ∧ n ≤ 10 ∧ p < 2 ^ n ∧ k < 1000 ∧ ∀ j, j < 10 → la j = -nI 2 ∨ ∃ c, c < 1000 ∧ la j = nI c
theorem vd_step {n p k l : Nat} {la : Nat → Int32} (h : vd n p k la) (hl : l < n) (hk : k + 1 < 1000) : vd n (p ^^^ 2 ^ l) (k + 1) (upd la l (nI (k + 1))) := by
  obtain ⟨h1, h2, h3, h4, h5⟩ := h
  refine ⟨h1, h2, x_lt h3 hl, hk, fun j hj => ?_⟩
  by_cases e : j = l
  · subst e; rw [pk_us]; exact Or.inr ⟨k + 1, hk, rfl⟩
  · rw [pk_un e]; exact h5 j hj
theorem bes_class {n p q : Nat} (hn : n ≤ 10) (hp : p < 2 ^ n) (hq : q < 2 ^ n) {w : Nat → Int64} {H : Nat → Bool} (hH : ∀ r, r < 1024 → bitw w r = H r) : ∀ (e j fu : Nat), j + e = n → e < fu → f_Ru_isBesideOneHad_L2 fu (nI q) (nI j) (nI n) (nI p) w = some ((List.range' j e).any (fun j => decide (¬ q ^^^ 2 ^ j = p) && H (q ^^^ 2 ^ j))) := by
  have hpow := p_pow hn
  intro e
  induction e with
  | zero =>
    intro j fu hj hfu
    obtain ⟨m, rfl⟩ : ∃ m, fu = m + 1 := ⟨fu - 1, by omega⟩
    rw [f_Ru_isBesideOneHad_L2]
    simp (disch := omega) only [n_lt, n_le, n_eq, n_cl, n_sub, nI_add, pk_mul, n_subL, n_Lsub, n_neN, n_Nne, n_leN, n_ltN, n_Nlt, n_Nle, le_T, le_F, lt_T, lt_F, eq_T, eq_F, true_or, or_true, false_or, or_false, true_and, and_true, false_and, and_false, and_self, or_self, not_true_eq_false, not_false_eq_true, decide_eq_true_eq, decide_true, decide_false, Bool.false_eq_true, Bool.true_eq_false, eq_self, ↓reduceIte, Option.bind_some, mo_in, lit_0, lit_1, lit_2, lit_3, lit_4, lit_5, lit_6, lit_7, lit_8, lit_9, lit_10, lit_11, lit_12, lit_13, lit_14, lit_15, lit_16, lit_20, lit_22, lit_24, lit_28, lit_30, lit_31, lit_32, lit_39, lit_40, lit_42, lit_48, lit_50, lit_57, lit_60, lit_61, lit_62, lit_63, lit_64, lit_100, lit_120, lit_121, lit_122, lit_128, lit_130, lit_255, lit_256, lit_360, lit_1024, lit_2147483647, m1_pred, Nat.add_sub_cancel, lit_124, lit_38, lit_37, lit_33, lit_126, lit_59, lit_112, lit_108, lit_110, lit_104, lit_47, lit_43, lit_45, lit_41, lit_123, lit_49, lit_58, lit_68]
    rfl
  | succ e ih =>
    intro j fu hj hfu
    obtain ⟨m, rfl⟩ : ∃ m, fu = m + 1 := ⟨fu - 1, by omega⟩
    have e1 := x_lt (l := j) hq (by omega)
    have e2 := pi_holds (show q ^^^ 2 ^ j < 1024 by omega) w
    rw [hH _ (by omega)] at e2
    have e3 := ih (j + 1) m (by omega) (by omega)
    rw [List.range'_succ, List.any_cons, f_Ru_isBesideOneHad_L2]
    by_cases h : q ^^^ 2 ^ j = p
    · simp (disch := omega) only [n_lt, n_le, n_eq, n_cl, n_sub, nI_add, pk_mul, n_subL, n_Lsub, n_neN, n_Nne, n_leN, n_ltN, n_Nlt, n_Nle, le_T, le_F, lt_T, lt_F, eq_T, eq_F, true_or, or_true, false_or, or_false, true_and, and_true, false_and, and_false, and_self, or_self, not_true_eq_false, not_false_eq_true, decide_eq_true_eq, decide_true, decide_false, Bool.false_eq_true, Bool.true_eq_false, eq_self, ↓reduceIte, Option.bind_some, mo_in, lit_0, lit_1, lit_2, lit_3, lit_4, lit_5, lit_6, lit_7, lit_8, lit_9, lit_10, lit_11, lit_12, lit_13, lit_14, lit_15, lit_16, lit_20, lit_22, lit_24, lit_28, lit_30, lit_31, lit_32, lit_39, lit_40, lit_42, lit_48, lit_50, lit_57, lit_60, lit_61, lit_62, lit_63, lit_64, lit_100, lit_120, lit_121, lit_122, lit_128, lit_130, lit_255, lit_256, lit_360, lit_1024, lit_2147483647, m1_pred, Nat.add_sub_cancel, lit_124, lit_38, lit_37, lit_33, lit_126, lit_59, lit_112, lit_108, lit_110, lit_104, lit_47, lit_43, lit_45, lit_41, lit_123, lit_49, lit_58, lit_68, q_shl, fb_xorI, f_Ru_isBesideOneHad_L37, h, e3, Bool.false_and, Bool.false_or]
    · cases hh : H (q ^^^ 2 ^ j) with
      | true =>
        rw [hh] at e2
        simp (disch := omega) only [n_lt, n_le, n_eq, n_cl, n_sub, nI_add, pk_mul, n_subL, n_Lsub, n_neN, n_Nne, n_leN, n_ltN, n_Nlt, n_Nle, le_T, le_F, lt_T, lt_F, eq_T, eq_F, true_or, or_true, false_or, or_false, true_and, and_true, false_and, and_false, and_self, or_self, not_true_eq_false, not_false_eq_true, decide_eq_true_eq, decide_true, decide_false, Bool.false_eq_true, Bool.true_eq_false, eq_self, ↓reduceIte, Option.bind_some, mo_in, lit_0, lit_1, lit_2, lit_3, lit_4, lit_5, lit_6, lit_7, lit_8, lit_9, lit_10, lit_11, lit_12, lit_13, lit_14, lit_15, lit_16, lit_20, lit_22, lit_24, lit_28, lit_30, lit_31, lit_32, lit_39, lit_40, lit_42, lit_48, lit_50, lit_57, lit_60, lit_61, lit_62, lit_63, lit_64, lit_100, lit_120, lit_121, lit_122, lit_128, lit_130, lit_255, lit_256, lit_360, lit_1024, lit_2147483647, m1_pred, Nat.add_sub_cancel, lit_124, lit_38, lit_37, lit_33, lit_126, lit_59, lit_112, lit_108, lit_110, lit_104, lit_47, lit_43, lit_45, lit_41, lit_123, lit_49, lit_58, lit_68, q_shl, fb_xorI, f_Ru_isBesideOneHad_L37, h, e2, Bool.true_and, Bool.true_or]
      | false =>
        rw [hh] at e2
        simp (disch := omega) only [n_lt, n_le, n_eq, n_cl, n_sub, nI_add, pk_mul, n_subL, n_Lsub, n_neN, n_Nne, n_leN, n_ltN, n_Nlt, n_Nle, le_T, le_F, lt_T, lt_F, eq_T, eq_F, true_or, or_true, false_or, or_false, true_and, and_true, false_and, and_false, and_self, or_self, not_true_eq_false, not_false_eq_true, decide_eq_true_eq, decide_true, decide_false, Bool.false_eq_true, Bool.true_eq_false, eq_self, ↓reduceIte, Option.bind_some, mo_in, lit_0, lit_1, lit_2, lit_3, lit_4, lit_5, lit_6, lit_7, lit_8, lit_9, lit_10, lit_11, lit_12, lit_13, lit_14, lit_15, lit_16, lit_20, lit_22, lit_24, lit_28, lit_30, lit_31, lit_32, lit_39, lit_40, lit_42, lit_48, lit_50, lit_57, lit_60, lit_61, lit_62, lit_63, lit_64, lit_100, lit_120, lit_121, lit_122, lit_128, lit_130, lit_255, lit_256, lit_360, lit_1024, lit_2147483647, m1_pred, Nat.add_sub_cancel, lit_124, lit_38, lit_37, lit_33, lit_126, lit_59, lit_112, lit_108, lit_110, lit_104, lit_47, lit_43, lit_45, lit_41, lit_123, lit_49, lit_58, lit_68, q_shl, fb_xorI, f_Ru_isBesideOneHad_L37, h, e2, e3, Bool.and_false, Bool.false_or]
theorem bes_model {n p q : Nat} (hn : n ≤ 10) (hp : p < 2 ^ n) (hq : q < 2 ^ n) {mhad : Nat → Int32} {H : Nat → Bool} (hH : ∀ r, r < 1024 → mhad r = b2i (H r)) : ∀ (e j fu : Nat), j + e = n → e < fu → f_Mo_isAlone_L2 fu (nI q) (nI j) (nI n) (nI p) mhad = some (!(List.range' j e).any (fun j => decide (¬ q ^^^ 2 ^ j = p) && H (q ^^^ 2 ^ j))) := by
  have hpow := p_pow hn
  intro e
  induction e with
  | zero =>
    intro j fu hj hfu
    obtain ⟨m, rfl⟩ : ∃ m, fu = m + 1 := ⟨fu - 1, by omega⟩
    rw [f_Mo_isAlone_L2]
    simp (disch := omega) only [n_lt, n_le, n_eq, n_cl, n_sub, nI_add, pk_mul, n_subL, n_Lsub, n_neN, n_Nne, n_leN, n_ltN, n_Nlt, n_Nle, le_T, le_F, lt_T, lt_F, eq_T, eq_F, true_or, or_true, false_or, or_false, true_and, and_true, false_and, and_false, and_self, or_self, not_true_eq_false, not_false_eq_true, decide_eq_true_eq, decide_true, decide_false, Bool.false_eq_true, Bool.true_eq_false, eq_self, ↓reduceIte, Option.bind_some, mo_in, lit_0, lit_1, lit_2, lit_3, lit_4, lit_5, lit_6, lit_7, lit_8, lit_9, lit_10, lit_11, lit_12, lit_13, lit_14, lit_15, lit_16, lit_20, lit_22, lit_24, lit_28, lit_30, lit_31, lit_32, lit_39, lit_40, lit_42, lit_48, lit_50, lit_57, lit_60, lit_61, lit_62, lit_63, lit_64, lit_100, lit_120, lit_121, lit_122, lit_128, lit_130, lit_255, lit_256, lit_360, lit_1024, lit_2147483647, m1_pred, Nat.add_sub_cancel, lit_124, lit_38, lit_37, lit_33, lit_126, lit_59, lit_112, lit_108, lit_110, lit_104, lit_47, lit_43, lit_45, lit_41, lit_123, lit_49, lit_58, lit_68]
    rfl
  | succ e ih =>
    intro j fu hj hfu
    obtain ⟨m, rfl⟩ : ∃ m, fu = m + 1 := ⟨fu - 1, by omega⟩
    have e1 := x_lt (l := j) hq (by omega)
    have e2 := hH (q ^^^ 2 ^ j) (by omega)
    have e3 := ih (j + 1) m (by omega) (by omega)
    rw [List.range'_succ, List.any_cons, f_Mo_isAlone_L2]
    cases hh : H (q ^^^ 2 ^ j) with
    | true =>
      rw [hh] at e2
      have e4 : mhad (q ^^^ 2 ^ j) = nI 1 := e2
      by_cases h : q ^^^ 2 ^ j = p
      · rw [h] at e4
        simp (disch := omega) only [n_lt, n_le, n_eq, n_cl, n_sub, nI_add, pk_mul, n_subL, n_Lsub, n_neN, n_Nne, n_leN, n_ltN, n_Nlt, n_Nle, le_T, le_F, lt_T, lt_F, eq_T, eq_F, true_or, or_true, false_or, or_false, true_and, and_true, false_and, and_false, and_self, or_self, not_true_eq_false, not_false_eq_true, decide_eq_true_eq, decide_true, decide_false, Bool.false_eq_true, Bool.true_eq_false, eq_self, ↓reduceIte, Option.bind_some, mo_in, lit_0, lit_1, lit_2, lit_3, lit_4, lit_5, lit_6, lit_7, lit_8, lit_9, lit_10, lit_11, lit_12, lit_13, lit_14, lit_15, lit_16, lit_20, lit_22, lit_24, lit_28, lit_30, lit_31, lit_32, lit_39, lit_40, lit_42, lit_48, lit_50, lit_57, lit_60, lit_61, lit_62, lit_63, lit_64, lit_100, lit_120, lit_121, lit_122, lit_128, lit_130, lit_255, lit_256, lit_360, lit_1024, lit_2147483647, m1_pred, Nat.add_sub_cancel, lit_124, lit_38, lit_37, lit_33, lit_126, lit_59, lit_112, lit_108, lit_110, lit_104, lit_47, lit_43, lit_45, lit_41, lit_123, lit_49, lit_58, lit_68, q_shl, fb_xorI, f_Mo_isAlone_L37, h, e3, e4, Bool.false_and, Bool.false_or]
      · simp (disch := omega) only [n_lt, n_le, n_eq, n_cl, n_sub, nI_add, pk_mul, n_subL, n_Lsub, n_neN, n_Nne, n_leN, n_ltN, n_Nlt, n_Nle, le_T, le_F, lt_T, lt_F, eq_T, eq_F, true_or, or_true, false_or, or_false, true_and, and_true, false_and, and_false, and_self, or_self, not_true_eq_false, not_false_eq_true, decide_eq_true_eq, decide_true, decide_false, Bool.false_eq_true, Bool.true_eq_false, eq_self, ↓reduceIte, Option.bind_some, mo_in, lit_0, lit_1, lit_2, lit_3, lit_4, lit_5, lit_6, lit_7, lit_8, lit_9, lit_10, lit_11, lit_12, lit_13, lit_14, lit_15, lit_16, lit_20, lit_22, lit_24, lit_28, lit_30, lit_31, lit_32, lit_39, lit_40, lit_42, lit_48, lit_50, lit_57, lit_60, lit_61, lit_62, lit_63, lit_64, lit_100, lit_120, lit_121, lit_122, lit_128, lit_130, lit_255, lit_256, lit_360, lit_1024, lit_2147483647, m1_pred, Nat.add_sub_cancel, lit_124, lit_38, lit_37, lit_33, lit_126, lit_59, lit_112, lit_108, lit_110, lit_104, lit_47, lit_43, lit_45, lit_41, lit_123, lit_49, lit_58, lit_68, q_shl, fb_xorI, f_Mo_isAlone_L37, h, e4, Bool.true_and, Bool.true_or, Bool.not_true]
    | false =>
      rw [hh] at e2
      have e4 : mhad (q ^^^ 2 ^ j) = nI 0 := e2
      simp (disch := omega) only [n_lt, n_le, n_eq, n_cl, n_sub, nI_add, pk_mul, n_subL, n_Lsub, n_neN, n_Nne, n_leN, n_ltN, n_Nlt, n_Nle, le_T, le_F, lt_T, lt_F, eq_T, eq_F, true_or, or_true, false_or, or_false, true_and, and_true, false_and, and_false, and_self, or_self, not_true_eq_false, not_false_eq_true, decide_eq_true_eq, decide_true, decide_false, Bool.false_eq_true, Bool.true_eq_false, eq_self, ↓reduceIte, Option.bind_some, mo_in, lit_0, lit_1, lit_2, lit_3, lit_4, lit_5, lit_6, lit_7, lit_8, lit_9, lit_10, lit_11, lit_12, lit_13, lit_14, lit_15, lit_16, lit_20, lit_22, lit_24, lit_28, lit_30, lit_31, lit_32, lit_39, lit_40, lit_42, lit_48, lit_50, lit_57, lit_60, lit_61, lit_62, lit_63, lit_64, lit_100, lit_120, lit_121, lit_122, lit_128, lit_130, lit_255, lit_256, lit_360, lit_1024, lit_2147483647, m1_pred, Nat.add_sub_cancel, lit_124, lit_38, lit_37, lit_33, lit_126, lit_59, lit_112, lit_108, lit_110, lit_104, lit_47, lit_43, lit_45, lit_41, lit_123, lit_49, lit_58, lit_68, q_shl, fb_xorI, f_Mo_isAlone_L37, e4, e3, Bool.and_false, Bool.false_or]
theorem ru_allow {lines : List (List Int32 × List Int32)} {code act with_ lineMany testEnd lineEnd : Nat → Int32} {len : Int32} {hasLaw : Bool} (hS : lw_S lines code len hasLaw act with_ lineMany testEnd lineEnd) {n p k l : Nat} {H B : Nat → Bool} {la : Nat → Int32} (hv : vd n p k la) (hl : l < n) {pic night rest shy a : Int32} {w asked forb told : Nat → Int64} {last : Nat → Int32} (hw : cwk p k H la pic night w last) (hB : ∀ q, q < 1024 → (bitw told q || decide (lw_lines (lw_env n q) lines ≠ 0)) = B q) (hC : lw_C lines a asked forb) (top : Int32) (stack : Nat → Int32) : ∃ a' asked' forb' top' stack', f_Ru_allow (nI l) (nI n) pic night last rest shy a w asked forb len top code stack told = some (al n rest shy B p k H la l, a', asked', forb', top', stack') ∧ lw_C lines a' asked' forb' := by
  obtain ⟨h1, h10, hp, hk, hla⟩ := hv
  obtain ⟨rfl, rfl, hH, hL⟩ := hw
  have hpow := p_pow h10
  have eq1 := x_lt (l := l) hp hl
  have e1 := wa_lamp (show l < 2147483648 by omega) h10
  have e2 := hL l (by omega)
  have e3 := pi_holds (show p ^^^ 2 ^ l < 1024 by omega) w
  rw [hH _ (by omega)] at e3
  have hrest : f_Ru_isResting (nI l) (nI n) (nI k) last rest = some (decide (¬ la l = -nI 2 ∧ ¬ rest < nI (k + 1) - la l)) := by
    unfold f_Ru_isResting f_Wa_lastOf
    by_cases c1 : la l = -nI 2
    · simp (disch := omega) only [n_lt, n_le, n_eq, n_cl, n_sub, nI_add, pk_mul, n_subL, n_Lsub, n_neN, n_Nne, n_leN, n_ltN, n_Nlt, n_Nle, le_T, le_F, lt_T, lt_F, eq_T, eq_F, true_or, or_true, false_or, or_false, true_and, and_true, false_and, and_false, and_self, or_self, not_true_eq_false, not_false_eq_true, decide_eq_true_eq, decide_true, decide_false, Bool.false_eq_true, Bool.true_eq_false, eq_self, ↓reduceIte, Option.bind_some, mo_in, lit_0, lit_1, lit_2, lit_3, lit_4, lit_5, lit_6, lit_7, lit_8, lit_9, lit_10, lit_11, lit_12, lit_13, lit_14, lit_15, lit_16, lit_20, lit_22, lit_24, lit_28, lit_30, lit_31, lit_32, lit_39, lit_40, lit_42, lit_48, lit_50, lit_57, lit_60, lit_61, lit_62, lit_63, lit_64, lit_100, lit_120, lit_121, lit_122, lit_128, lit_130, lit_255, lit_256, lit_360, lit_1024, lit_2147483647, m1_pred, Nat.add_sub_cancel, lit_124, lit_38, lit_37, lit_33, lit_126, lit_59, lit_112, lit_108, lit_110, lit_104, lit_47, lit_43, lit_45, lit_41, lit_123, lit_49, lit_58, lit_68, e1, e2, c1]
    · by_cases c2 : rest < nI (k + 1) - la l
      · simp (disch := omega) only [n_lt, n_le, n_eq, n_cl, n_sub, nI_add, pk_mul, n_subL, n_Lsub, n_neN, n_Nne, n_leN, n_ltN, n_Nlt, n_Nle, le_T, le_F, lt_T, lt_F, eq_T, eq_F, true_or, or_true, false_or, or_false, true_and, and_true, false_and, and_false, and_self, or_self, not_true_eq_false, not_false_eq_true, decide_eq_true_eq, decide_true, decide_false, Bool.false_eq_true, Bool.true_eq_false, eq_self, ↓reduceIte, Option.bind_some, mo_in, lit_0, lit_1, lit_2, lit_3, lit_4, lit_5, lit_6, lit_7, lit_8, lit_9, lit_10, lit_11, lit_12, lit_13, lit_14, lit_15, lit_16, lit_20, lit_22, lit_24, lit_28, lit_30, lit_31, lit_32, lit_39, lit_40, lit_42, lit_48, lit_50, lit_57, lit_60, lit_61, lit_62, lit_63, lit_64, lit_100, lit_120, lit_121, lit_122, lit_128, lit_130, lit_255, lit_256, lit_360, lit_1024, lit_2147483647, m1_pred, Nat.add_sub_cancel, lit_124, lit_38, lit_37, lit_33, lit_126, lit_59, lit_112, lit_108, lit_110, lit_104, lit_47, lit_43, lit_45, lit_41, lit_123, lit_49, lit_58, lit_68, e1, e2, c1, c2]
      · simp (disch := omega) only [n_lt, n_le, n_eq, n_cl, n_sub, nI_add, pk_mul, n_subL, n_Lsub, n_neN, n_Nne, n_leN, n_ltN, n_Nlt, n_Nle, le_T, le_F, lt_T, lt_F, eq_T, eq_F, true_or, or_true, false_or, or_false, true_and, and_true, false_and, and_false, and_self, or_self, not_true_eq_false, not_false_eq_true, decide_eq_true_eq, decide_true, decide_false, Bool.false_eq_true, Bool.true_eq_false, eq_self, ↓reduceIte, Option.bind_some, mo_in, lit_0, lit_1, lit_2, lit_3, lit_4, lit_5, lit_6, lit_7, lit_8, lit_9, lit_10, lit_11, lit_12, lit_13, lit_14, lit_15, lit_16, lit_20, lit_22, lit_24, lit_28, lit_30, lit_31, lit_32, lit_39, lit_40, lit_42, lit_48, lit_50, lit_57, lit_60, lit_61, lit_62, lit_63, lit_64, lit_100, lit_120, lit_121, lit_122, lit_128, lit_130, lit_255, lit_256, lit_360, lit_1024, lit_2147483647, m1_pred, Nat.add_sub_cancel, lit_124, lit_38, lit_37, lit_33, lit_126, lit_59, lit_112, lit_108, lit_110, lit_104, lit_47, lit_43, lit_45, lit_41, lit_123, lit_49, lit_58, lit_68, e1, e2, c1, c2]
  unfold al
  cases c1 : decide (¬ la l = -nI 2 ∧ ¬ rest < nI (k + 1) - la l) with
  | true =>
    rw [c1] at hrest
    refine ⟨a, asked, forb, top, stack, ?_, hC⟩
    simp (disch := omega) only [n_lt, n_le, n_eq, n_cl, n_sub, nI_add, pk_mul, n_subL, n_Lsub, n_neN, n_Nne, n_leN, n_ltN, n_Nlt, n_Nle, le_T, le_F, lt_T, lt_F, eq_T, eq_F, true_or, or_true, false_or, or_false, true_and, and_true, false_and, and_false, and_self, or_self, not_true_eq_false, not_false_eq_true, decide_eq_true_eq, decide_true, decide_false, Bool.false_eq_true, Bool.true_eq_false, eq_self, ↓reduceIte, Option.bind_some, mo_in, lit_0, lit_1, lit_2, lit_3, lit_4, lit_5, lit_6, lit_7, lit_8, lit_9, lit_10, lit_11, lit_12, lit_13, lit_14, lit_15, lit_16, lit_20, lit_22, lit_24, lit_28, lit_30, lit_31, lit_32, lit_39, lit_40, lit_42, lit_48, lit_50, lit_57, lit_60, lit_61, lit_62, lit_63, lit_64, lit_100, lit_120, lit_121, lit_122, lit_128, lit_130, lit_255, lit_256, lit_360, lit_1024, lit_2147483647, m1_pred, Nat.add_sub_cancel, lit_124, lit_38, lit_37, lit_33, lit_126, lit_59, lit_112, lit_108, lit_110, lit_104, lit_47, lit_43, lit_45, lit_41, lit_123, lit_49, lit_58, lit_68, f_Ru_allow, e1, hrest, Bool.not_true, Bool.false_and]
  | false =>
    rw [c1] at hrest
    cases c2 : H (p ^^^ 2 ^ l) with
    | true =>
      rw [c2] at e3
      refine ⟨a, asked, forb, top, stack, ?_, hC⟩
      simp (disch := omega) only [n_lt, n_le, n_eq, n_cl, n_sub, nI_add, pk_mul, n_subL, n_Lsub, n_neN, n_Nne, n_leN, n_ltN, n_Nlt, n_Nle, le_T, le_F, lt_T, lt_F, eq_T, eq_F, true_or, or_true, false_or, or_false, true_and, and_true, false_and, and_false, and_self, or_self, not_true_eq_false, not_false_eq_true, decide_eq_true_eq, decide_true, decide_false, Bool.false_eq_true, Bool.true_eq_false, eq_self, ↓reduceIte, Option.bind_some, mo_in, lit_0, lit_1, lit_2, lit_3, lit_4, lit_5, lit_6, lit_7, lit_8, lit_9, lit_10, lit_11, lit_12, lit_13, lit_14, lit_15, lit_16, lit_20, lit_22, lit_24, lit_28, lit_30, lit_31, lit_32, lit_39, lit_40, lit_42, lit_48, lit_50, lit_57, lit_60, lit_61, lit_62, lit_63, lit_64, lit_100, lit_120, lit_121, lit_122, lit_128, lit_130, lit_255, lit_256, lit_360, lit_1024, lit_2147483647, m1_pred, Nat.add_sub_cancel, lit_124, lit_38, lit_37, lit_33, lit_126, lit_59, lit_112, lit_108, lit_110, lit_104, lit_47, lit_43, lit_45, lit_41, lit_123, lit_49, lit_58, lit_68, f_Ru_allow, e1, hrest, q_shl, fb_xorI, e3, Bool.not_true, Bool.not_false, Bool.false_and, Bool.true_and]
    | false =>
      rw [c2] at e3
      obtain ⟨as, fo, tp, sk, e4, hC'⟩ := ru_barred hS (show p ^^^ 2 ^ l < 1024 by omega) h10 hC told top stack
      rw [hB _ (by omega)] at e4
      cases c3 : B (p ^^^ 2 ^ l) with
      | true =>
        rw [c3] at e4
        refine ⟨nI n, as, fo, tp, sk, ?_, hC'⟩
        simp (disch := omega) only [n_lt, n_le, n_eq, n_cl, n_sub, nI_add, pk_mul, n_subL, n_Lsub, n_neN, n_Nne, n_leN, n_ltN, n_Nlt, n_Nle, le_T, le_F, lt_T, lt_F, eq_T, eq_F, true_or, or_true, false_or, or_false, true_and, and_true, false_and, and_false, and_self, or_self, not_true_eq_false, not_false_eq_true, decide_eq_true_eq, decide_true, decide_false, Bool.false_eq_true, Bool.true_eq_false, eq_self, ↓reduceIte, Option.bind_some, mo_in, lit_0, lit_1, lit_2, lit_3, lit_4, lit_5, lit_6, lit_7, lit_8, lit_9, lit_10, lit_11, lit_12, lit_13, lit_14, lit_15, lit_16, lit_20, lit_22, lit_24, lit_28, lit_30, lit_31, lit_32, lit_39, lit_40, lit_42, lit_48, lit_50, lit_57, lit_60, lit_61, lit_62, lit_63, lit_64, lit_100, lit_120, lit_121, lit_122, lit_128, lit_130, lit_255, lit_256, lit_360, lit_1024, lit_2147483647, m1_pred, Nat.add_sub_cancel, lit_124, lit_38, lit_37, lit_33, lit_126, lit_59, lit_112, lit_108, lit_110, lit_104, lit_47, lit_43, lit_45, lit_41, lit_123, lit_49, lit_58, lit_68, f_Ru_allow, e1, hrest, q_shl, fb_xorI, e3, e4, Bool.not_true, Bool.not_false, Bool.false_and, Bool.true_and]
      | false =>
        rw [c3] at e4
        by_cases c4 : shy = nI 0
        · refine ⟨nI n, as, fo, tp, sk, ?_, hC'⟩
          simp (disch := omega) only [n_lt, n_le, n_eq, n_cl, n_sub, nI_add, pk_mul, n_subL, n_Lsub, n_neN, n_Nne, n_leN, n_ltN, n_Nlt, n_Nle, le_T, le_F, lt_T, lt_F, eq_T, eq_F, true_or, or_true, false_or, or_false, true_and, and_true, false_and, and_false, and_self, or_self, not_true_eq_false, not_false_eq_true, decide_eq_true_eq, decide_true, decide_false, Bool.false_eq_true, Bool.true_eq_false, eq_self, ↓reduceIte, Option.bind_some, mo_in, lit_0, lit_1, lit_2, lit_3, lit_4, lit_5, lit_6, lit_7, lit_8, lit_9, lit_10, lit_11, lit_12, lit_13, lit_14, lit_15, lit_16, lit_20, lit_22, lit_24, lit_28, lit_30, lit_31, lit_32, lit_39, lit_40, lit_42, lit_48, lit_50, lit_57, lit_60, lit_61, lit_62, lit_63, lit_64, lit_100, lit_120, lit_121, lit_122, lit_128, lit_130, lit_255, lit_256, lit_360, lit_1024, lit_2147483647, m1_pred, Nat.add_sub_cancel, lit_124, lit_38, lit_37, lit_33, lit_126, lit_59, lit_112, lit_108, lit_110, lit_104, lit_47, lit_43, lit_45, lit_41, lit_123, lit_49, lit_58, lit_68, f_Ru_allow, e1, hrest, q_shl, fb_xorI, e3, e4, c4, Bool.not_true, Bool.not_false, Bool.false_and, Bool.true_and, Bool.true_or]
        · have e5 : f_Ru_isBesideOneHad (nI (p ^^^ 2 ^ l)) (nI n) (nI p) w = some (bes n p H (p ^^^ 2 ^ l)) := bes_class h10 hp eq1 hH n 0 3000 (by omega) (by omega)
          refine ⟨nI n, as, fo, tp, sk, ?_, hC'⟩
          cases c5 : bes n p H (p ^^^ 2 ^ l) with
          | true =>
            rw [c5] at e5
            simp (disch := omega) only [n_lt, n_le, n_eq, n_cl, n_sub, nI_add, pk_mul, n_subL, n_Lsub, n_neN, n_Nne, n_leN, n_ltN, n_Nlt, n_Nle, le_T, le_F, lt_T, lt_F, eq_T, eq_F, true_or, or_true, false_or, or_false, true_and, and_true, false_and, and_false, and_self, or_self, not_true_eq_false, not_false_eq_true, decide_eq_true_eq, decide_true, decide_false, Bool.false_eq_true, Bool.true_eq_false, eq_self, ↓reduceIte, Option.bind_some, mo_in, lit_0, lit_1, lit_2, lit_3, lit_4, lit_5, lit_6, lit_7, lit_8, lit_9, lit_10, lit_11, lit_12, lit_13, lit_14, lit_15, lit_16, lit_20, lit_22, lit_24, lit_28, lit_30, lit_31, lit_32, lit_39, lit_40, lit_42, lit_48, lit_50, lit_57, lit_60, lit_61, lit_62, lit_63, lit_64, lit_100, lit_120, lit_121, lit_122, lit_128, lit_130, lit_255, lit_256, lit_360, lit_1024, lit_2147483647, m1_pred, Nat.add_sub_cancel, lit_124, lit_38, lit_37, lit_33, lit_126, lit_59, lit_112, lit_108, lit_110, lit_104, lit_47, lit_43, lit_45, lit_41, lit_123, lit_49, lit_58, lit_68, f_Ru_allow, e1, hrest, q_shl, fb_xorI, e3, e4, e5, c4, Bool.not_true, Bool.not_false, Bool.false_and, Bool.true_and, Bool.false_or]
          | false =>
            rw [c5] at e5
            simp (disch := omega) only [n_lt, n_le, n_eq, n_cl, n_sub, nI_add, pk_mul, n_subL, n_Lsub, n_neN, n_Nne, n_leN, n_ltN, n_Nlt, n_Nle, le_T, le_F, lt_T, lt_F, eq_T, eq_F, true_or, or_true, false_or, or_false, true_and, and_true, false_and, and_false, and_self, or_self, not_true_eq_false, not_false_eq_true, decide_eq_true_eq, decide_true, decide_false, Bool.false_eq_true, Bool.true_eq_false, eq_self, ↓reduceIte, Option.bind_some, mo_in, lit_0, lit_1, lit_2, lit_3, lit_4, lit_5, lit_6, lit_7, lit_8, lit_9, lit_10, lit_11, lit_12, lit_13, lit_14, lit_15, lit_16, lit_20, lit_22, lit_24, lit_28, lit_30, lit_31, lit_32, lit_39, lit_40, lit_42, lit_48, lit_50, lit_57, lit_60, lit_61, lit_62, lit_63, lit_64, lit_100, lit_120, lit_121, lit_122, lit_128, lit_130, lit_255, lit_256, lit_360, lit_1024, lit_2147483647, m1_pred, Nat.add_sub_cancel, lit_124, lit_38, lit_37, lit_33, lit_126, lit_59, lit_112, lit_108, lit_110, lit_104, lit_47, lit_43, lit_45, lit_41, lit_123, lit_49, lit_58, lit_68, f_Ru_allow, e1, hrest, q_shl, fb_xorI, e3, e4, e5, c4, Bool.not_true, Bool.not_false, Bool.false_and, Bool.true_and, Bool.false_or]
theorem mo_may {n p k l : Nat} {H B : Nat → Bool} {la : Nat → Int32} (hv : vd n p k la) (hl : l < n) {at_ night rest shy : Int32} {mhad barred mlast : Nat → Int32} (hw : mwk p k H la at_ night mhad mlast) (hB : ∀ q, q < 2 ^ n → barred q = b2i (B q)) : f_Mo_mayChange (nI l) (nI n) at_ night rest shy mhad barred mlast = some (al n rest shy B p k H la l) := by
  obtain ⟨h1, h10, hp, hk, hla⟩ := hv
  obtain ⟨rfl, rfl, hH, hL⟩ := hw
  have hpow := p_pow h10
  have eq1 := x_lt (l := l) hp hl
  have e2 := hL l (by omega)
  have e3 := hH (p ^^^ 2 ^ l) (by omega)
  have e4 := hB (p ^^^ 2 ^ l) eq1
  have e5 : f_Mo_isAlone (nI (p ^^^ 2 ^ l)) (nI n) (nI p) mhad = some (!bes n p H (p ^^^ 2 ^ l)) := bes_model h10 hp eq1 hH n 0 3000 (by omega) (by omega)
  have e6 : f_Mo_mayChange_L60 (nI (p ^^^ 2 ^ l)) (nI n) (nI p) shy mhad = some (decide (shy = nI 0) || !bes n p H (p ^^^ 2 ^ l)) := by
    unfold f_Mo_mayChange_L60
    by_cases c4 : shy = nI 0
    · simp (disch := omega) only [n_lt, n_le, n_eq, n_cl, n_sub, nI_add, pk_mul, n_subL, n_Lsub, n_neN, n_Nne, n_leN, n_ltN, n_Nlt, n_Nle, le_T, le_F, lt_T, lt_F, eq_T, eq_F, true_or, or_true, false_or, or_false, true_and, and_true, false_and, and_false, and_self, or_self, not_true_eq_false, not_false_eq_true, decide_eq_true_eq, decide_true, decide_false, Bool.false_eq_true, Bool.true_eq_false, eq_self, ↓reduceIte, Option.bind_some, mo_in, lit_0, lit_1, lit_2, lit_3, lit_4, lit_5, lit_6, lit_7, lit_8, lit_9, lit_10, lit_11, lit_12, lit_13, lit_14, lit_15, lit_16, lit_20, lit_22, lit_24, lit_28, lit_30, lit_31, lit_32, lit_39, lit_40, lit_42, lit_48, lit_50, lit_57, lit_60, lit_61, lit_62, lit_63, lit_64, lit_100, lit_120, lit_121, lit_122, lit_128, lit_130, lit_255, lit_256, lit_360, lit_1024, lit_2147483647, m1_pred, Nat.add_sub_cancel, lit_124, lit_38, lit_37, lit_33, lit_126, lit_59, lit_112, lit_108, lit_110, lit_104, lit_47, lit_43, lit_45, lit_41, lit_123, lit_49, lit_58, lit_68, c4, Bool.true_or]
    · cases c5 : bes n p H (p ^^^ 2 ^ l) with
      | true =>
        rw [c5] at e5
        simp (disch := omega) only [n_lt, n_le, n_eq, n_cl, n_sub, nI_add, pk_mul, n_subL, n_Lsub, n_neN, n_Nne, n_leN, n_ltN, n_Nlt, n_Nle, le_T, le_F, lt_T, lt_F, eq_T, eq_F, true_or, or_true, false_or, or_false, true_and, and_true, false_and, and_false, and_self, or_self, not_true_eq_false, not_false_eq_true, decide_eq_true_eq, decide_true, decide_false, Bool.false_eq_true, Bool.true_eq_false, eq_self, ↓reduceIte, Option.bind_some, mo_in, lit_0, lit_1, lit_2, lit_3, lit_4, lit_5, lit_6, lit_7, lit_8, lit_9, lit_10, lit_11, lit_12, lit_13, lit_14, lit_15, lit_16, lit_20, lit_22, lit_24, lit_28, lit_30, lit_31, lit_32, lit_39, lit_40, lit_42, lit_48, lit_50, lit_57, lit_60, lit_61, lit_62, lit_63, lit_64, lit_100, lit_120, lit_121, lit_122, lit_128, lit_130, lit_255, lit_256, lit_360, lit_1024, lit_2147483647, m1_pred, Nat.add_sub_cancel, lit_124, lit_38, lit_37, lit_33, lit_126, lit_59, lit_112, lit_108, lit_110, lit_104, lit_47, lit_43, lit_45, lit_41, lit_123, lit_49, lit_58, lit_68, c4, e5, Bool.not_true, Bool.false_or]
      | false =>
        rw [c5] at e5
        simp (disch := omega) only [n_lt, n_le, n_eq, n_cl, n_sub, nI_add, pk_mul, n_subL, n_Lsub, n_neN, n_Nne, n_leN, n_ltN, n_Nlt, n_Nle, le_T, le_F, lt_T, lt_F, eq_T, eq_F, true_or, or_true, false_or, or_false, true_and, and_true, false_and, and_false, and_self, or_self, not_true_eq_false, not_false_eq_true, decide_eq_true_eq, decide_true, decide_false, Bool.false_eq_true, Bool.true_eq_false, eq_self, ↓reduceIte, Option.bind_some, mo_in, lit_0, lit_1, lit_2, lit_3, lit_4, lit_5, lit_6, lit_7, lit_8, lit_9, lit_10, lit_11, lit_12, lit_13, lit_14, lit_15, lit_16, lit_20, lit_22, lit_24, lit_28, lit_30, lit_31, lit_32, lit_39, lit_40, lit_42, lit_48, lit_50, lit_57, lit_60, lit_61, lit_62, lit_63, lit_64, lit_100, lit_120, lit_121, lit_122, lit_128, lit_130, lit_255, lit_256, lit_360, lit_1024, lit_2147483647, m1_pred, Nat.add_sub_cancel, lit_124, lit_38, lit_37, lit_33, lit_126, lit_59, lit_112, lit_108, lit_110, lit_104, lit_47, lit_43, lit_45, lit_41, lit_123, lit_49, lit_58, lit_68, c4, e5, Bool.not_false, Bool.false_or]
  unfold al
  cases c2 : H (p ^^^ 2 ^ l) with
  | true =>
    rw [c2] at e3
    have e3' : mhad (p ^^^ 2 ^ l) = nI 1 := e3
    simp (disch := omega) only [n_lt, n_le, n_eq, n_cl, n_sub, nI_add, pk_mul, n_subL, n_Lsub, n_neN, n_Nne, n_leN, n_ltN, n_Nlt, n_Nle, le_T, le_F, lt_T, lt_F, eq_T, eq_F, true_or, or_true, false_or, or_false, true_and, and_true, false_and, and_false, and_self, or_self, not_true_eq_false, not_false_eq_true, decide_eq_true_eq, decide_true, decide_false, Bool.false_eq_true, Bool.true_eq_false, eq_self, ↓reduceIte, Option.bind_some, mo_in, lit_0, lit_1, lit_2, lit_3, lit_4, lit_5, lit_6, lit_7, lit_8, lit_9, lit_10, lit_11, lit_12, lit_13, lit_14, lit_15, lit_16, lit_20, lit_22, lit_24, lit_28, lit_30, lit_31, lit_32, lit_39, lit_40, lit_42, lit_48, lit_50, lit_57, lit_60, lit_61, lit_62, lit_63, lit_64, lit_100, lit_120, lit_121, lit_122, lit_128, lit_130, lit_255, lit_256, lit_360, lit_1024, lit_2147483647, m1_pred, Nat.add_sub_cancel, lit_124, lit_38, lit_37, lit_33, lit_126, lit_59, lit_112, lit_108, lit_110, lit_104, lit_47, lit_43, lit_45, lit_41, lit_123, lit_49, lit_58, lit_68, f_Mo_mayChange, q_shl, fb_xorI, e3', Bool.not_true, Bool.false_and, Bool.and_false]
  | false =>
    rw [c2] at e3
    have e3' : mhad (p ^^^ 2 ^ l) = nI 0 := e3
    cases c3 : B (p ^^^ 2 ^ l) with
    | true =>
      rw [c3] at e4
      have e4' : barred (p ^^^ 2 ^ l) = nI 1 := e4
      simp (disch := omega) only [n_lt, n_le, n_eq, n_cl, n_sub, nI_add, pk_mul, n_subL, n_Lsub, n_neN, n_Nne, n_leN, n_ltN, n_Nlt, n_Nle, le_T, le_F, lt_T, lt_F, eq_T, eq_F, true_or, or_true, false_or, or_false, true_and, and_true, false_and, and_false, and_self, or_self, not_true_eq_false, not_false_eq_true, decide_eq_true_eq, decide_true, decide_false, Bool.false_eq_true, Bool.true_eq_false, eq_self, ↓reduceIte, Option.bind_some, mo_in, lit_0, lit_1, lit_2, lit_3, lit_4, lit_5, lit_6, lit_7, lit_8, lit_9, lit_10, lit_11, lit_12, lit_13, lit_14, lit_15, lit_16, lit_20, lit_22, lit_24, lit_28, lit_30, lit_31, lit_32, lit_39, lit_40, lit_42, lit_48, lit_50, lit_57, lit_60, lit_61, lit_62, lit_63, lit_64, lit_100, lit_120, lit_121, lit_122, lit_128, lit_130, lit_255, lit_256, lit_360, lit_1024, lit_2147483647, m1_pred, Nat.add_sub_cancel, lit_124, lit_38, lit_37, lit_33, lit_126, lit_59, lit_112, lit_108, lit_110, lit_104, lit_47, lit_43, lit_45, lit_41, lit_123, lit_49, lit_58, lit_68, f_Mo_mayChange, q_shl, fb_xorI, e3', e4', Bool.not_true, Bool.false_and, Bool.and_false]
    | false =>
      rw [c3] at e4
      have e4' : barred (p ^^^ 2 ^ l) = nI 0 := e4
      rcases hla l (by omega) with c1 | ⟨c, hc, c1⟩
      · have n1 : (-nI 2 < nI 0) = True := eq_true (by decide)
        simp (disch := omega) only [n_lt, n_le, n_eq, n_cl, n_sub, nI_add, pk_mul, n_subL, n_Lsub, n_neN, n_Nne, n_leN, n_ltN, n_Nlt, n_Nle, le_T, le_F, lt_T, lt_F, eq_T, eq_F, true_or, or_true, false_or, or_false, true_and, and_true, false_and, and_false, and_self, or_self, not_true_eq_false, not_false_eq_true, decide_eq_true_eq, decide_true, decide_false, Bool.false_eq_true, Bool.true_eq_false, eq_self, ↓reduceIte, Option.bind_some, mo_in, lit_0, lit_1, lit_2, lit_3, lit_4, lit_5, lit_6, lit_7, lit_8, lit_9, lit_10, lit_11, lit_12, lit_13, lit_14, lit_15, lit_16, lit_20, lit_22, lit_24, lit_28, lit_30, lit_31, lit_32, lit_39, lit_40, lit_42, lit_48, lit_50, lit_57, lit_60, lit_61, lit_62, lit_63, lit_64, lit_100, lit_120, lit_121, lit_122, lit_128, lit_130, lit_255, lit_256, lit_360, lit_1024, lit_2147483647, m1_pred, Nat.add_sub_cancel, lit_124, lit_38, lit_37, lit_33, lit_126, lit_59, lit_112, lit_108, lit_110, lit_104, lit_47, lit_43, lit_45, lit_41, lit_123, lit_49, lit_58, lit_68, f_Mo_mayChange, q_shl, fb_xorI, e2, e3', e4', e6, c1, n1, Bool.not_true, Bool.not_false, Bool.false_and, Bool.true_and]
      · by_cases c6 : rest < nI (k + 1) - nI c
        · simp (disch := omega) only [n_lt, n_le, n_eq, n_cl, n_sub, nI_add, pk_mul, n_subL, n_Lsub, n_neN, n_Nne, n_leN, n_ltN, n_Nlt, n_Nle, le_T, le_F, lt_T, lt_F, eq_T, eq_F, true_or, or_true, false_or, or_false, true_and, and_true, false_and, and_false, and_self, or_self, not_true_eq_false, not_false_eq_true, decide_eq_true_eq, decide_true, decide_false, Bool.false_eq_true, Bool.true_eq_false, eq_self, ↓reduceIte, Option.bind_some, mo_in, lit_0, lit_1, lit_2, lit_3, lit_4, lit_5, lit_6, lit_7, lit_8, lit_9, lit_10, lit_11, lit_12, lit_13, lit_14, lit_15, lit_16, lit_20, lit_22, lit_24, lit_28, lit_30, lit_31, lit_32, lit_39, lit_40, lit_42, lit_48, lit_50, lit_57, lit_60, lit_61, lit_62, lit_63, lit_64, lit_100, lit_120, lit_121, lit_122, lit_128, lit_130, lit_255, lit_256, lit_360, lit_1024, lit_2147483647, m1_pred, Nat.add_sub_cancel, lit_124, lit_38, lit_37, lit_33, lit_126, lit_59, lit_112, lit_108, lit_110, lit_104, lit_47, lit_43, lit_45, lit_41, lit_123, lit_49, lit_58, lit_68, f_Mo_mayChange, q_shl, fb_xorI, e2, e3', e4', e6, c1, c6, Bool.not_true, Bool.not_false, Bool.false_and, Bool.true_and]
        · simp (disch := omega) only [n_lt, n_le, n_eq, n_cl, n_sub, nI_add, pk_mul, n_subL, n_Lsub, n_neN, n_Nne, n_leN, n_ltN, n_Nlt, n_Nle, le_T, le_F, lt_T, lt_F, eq_T, eq_F, true_or, or_true, false_or, or_false, true_and, and_true, false_and, and_false, and_self, or_self, not_true_eq_false, not_false_eq_true, decide_eq_true_eq, decide_true, decide_false, Bool.false_eq_true, Bool.true_eq_false, eq_self, ↓reduceIte, Option.bind_some, mo_in, lit_0, lit_1, lit_2, lit_3, lit_4, lit_5, lit_6, lit_7, lit_8, lit_9, lit_10, lit_11, lit_12, lit_13, lit_14, lit_15, lit_16, lit_20, lit_22, lit_24, lit_28, lit_30, lit_31, lit_32, lit_39, lit_40, lit_42, lit_48, lit_50, lit_57, lit_60, lit_61, lit_62, lit_63, lit_64, lit_100, lit_120, lit_121, lit_122, lit_128, lit_130, lit_255, lit_256, lit_360, lit_1024, lit_2147483647, m1_pred, Nat.add_sub_cancel, lit_124, lit_38, lit_37, lit_33, lit_126, lit_59, lit_112, lit_108, lit_110, lit_104, lit_47, lit_43, lit_45, lit_41, lit_123, lit_49, lit_58, lit_68, f_Mo_mayChange, q_shl, fb_xorI, e2, e3', e4', e6, c1, c6, Bool.not_true, Bool.not_false, Bool.false_and, Bool.true_and]
theorem cl_go {n p k l : Nat} {H : Nat → Bool} {la : Nat → Int32} (hv : vd n p k la) (hl : l < n) {pic night : Int32} {w : Nat → Int64} {last : Nat → Int32} (hw : cwk p k H la pic night w last) : ∃ pic' night' last' w', f_Wa_step (nI l) (nI n) pic night last w = some (pic', night', last', w') ∧ f_Wa_lastOf (nI l) (nI n) last = some (la l) ∧ cwk (p ^^^ 2 ^ l) (k + 1) (hs H (p ^^^ 2 ^ l)) (upd la l (nI (k + 1))) pic' night' w' last' := by
  obtain ⟨h1, h10, hp, hk, hla⟩ := hv
  obtain ⟨rfl, rfl, hH, hL⟩ := hw
  have hpow := p_pow h10
  have eq1 := x_lt (l := l) hp hl
  have e1 := wa_lamp (show l < 2147483648 by omega) h10
  have e2 := hL l (by omega)
  obtain ⟨w', e3, g3⟩ := pi_add (show p ^^^ 2 ^ l < 1024 by omega) w
  refine ⟨nI (p ^^^ 2 ^ l), nI (k + 1), upd last l (nI (k + 1)), w', ?_, ?_, rfl, rfl, fun q hq => ?_, fun j hj => ?_⟩
  · simp (disch := omega) only [n_lt, n_le, n_eq, n_cl, n_sub, nI_add, pk_mul, n_subL, n_Lsub, n_neN, n_Nne, n_leN, n_ltN, n_Nlt, n_Nle, le_T, le_F, lt_T, lt_F, eq_T, eq_F, true_or, or_true, false_or, or_false, true_and, and_true, false_and, and_false, and_self, or_self, not_true_eq_false, not_false_eq_true, decide_eq_true_eq, decide_true, decide_false, Bool.false_eq_true, Bool.true_eq_false, eq_self, ↓reduceIte, Option.bind_some, mo_in, lit_0, lit_1, lit_2, lit_3, lit_4, lit_5, lit_6, lit_7, lit_8, lit_9, lit_10, lit_11, lit_12, lit_13, lit_14, lit_15, lit_16, lit_20, lit_22, lit_24, lit_28, lit_30, lit_31, lit_32, lit_39, lit_40, lit_42, lit_48, lit_50, lit_57, lit_60, lit_61, lit_62, lit_63, lit_64, lit_100, lit_120, lit_121, lit_122, lit_128, lit_130, lit_255, lit_256, lit_360, lit_1024, lit_2147483647, m1_pred, Nat.add_sub_cancel, lit_124, lit_38, lit_37, lit_33, lit_126, lit_59, lit_112, lit_108, lit_110, lit_104, lit_47, lit_43, lit_45, lit_41, lit_123, lit_49, lit_58, lit_68, f_Wa_step, e1, q_shl, fb_xorI, e3]
  · simp (disch := omega) only [n_lt, n_le, n_eq, n_cl, n_sub, nI_add, pk_mul, n_subL, n_Lsub, n_neN, n_Nne, n_leN, n_ltN, n_Nlt, n_Nle, le_T, le_F, lt_T, lt_F, eq_T, eq_F, true_or, or_true, false_or, or_false, true_and, and_true, false_and, and_false, and_self, or_self, not_true_eq_false, not_false_eq_true, decide_eq_true_eq, decide_true, decide_false, Bool.false_eq_true, Bool.true_eq_false, eq_self, ↓reduceIte, Option.bind_some, mo_in, lit_0, lit_1, lit_2, lit_3, lit_4, lit_5, lit_6, lit_7, lit_8, lit_9, lit_10, lit_11, lit_12, lit_13, lit_14, lit_15, lit_16, lit_20, lit_22, lit_24, lit_28, lit_30, lit_31, lit_32, lit_39, lit_40, lit_42, lit_48, lit_50, lit_57, lit_60, lit_61, lit_62, lit_63, lit_64, lit_100, lit_120, lit_121, lit_122, lit_128, lit_130, lit_255, lit_256, lit_360, lit_1024, lit_2147483647, m1_pred, Nat.add_sub_cancel, lit_124, lit_38, lit_37, lit_33, lit_126, lit_59, lit_112, lit_108, lit_110, lit_104, lit_47, lit_43, lit_45, lit_41, lit_123, lit_49, lit_58, lit_68, f_Wa_lastOf, e1, e2]
  · rw [g3, hH q hq]; rfl
  · by_cases e : j = l
    · subst e; rw [pk_us, pk_us]
    · rw [pk_un e, pk_un e, hL j hj]
theorem cl_back {n p k l : Nat} {H : Nat → Bool} {la : Nat → Int32} (hv : vd n p k la) (hl : l < n) (hnew : H (p ^^^ 2 ^ l) = false) {pic night : Int32} {w : Nat → Int64} {last : Nat → Int32} (hw : cwk (p ^^^ 2 ^ l) (k + 1) (hs H (p ^^^ 2 ^ l)) (upd la l (nI (k + 1))) pic night w last) : ∃ pic' night' w' last', f_Wa_stepBack (nI l) (la l) (nI n) pic night w last = some (pic', night', w', last') ∧ cwk p k H la pic' night' w' last' := by
  obtain ⟨h1, h10, hp, hk, hla⟩ := hv
  obtain ⟨rfl, rfl, hH, hL⟩ := hw
  have hpow := p_pow h10
  have eq1 := x_lt (l := l) hp hl
  have e1 := wa_lamp (show l < 2147483648 by omega) h10
  obtain ⟨w', e3, g3⟩ := pi_remove (show p ^^^ 2 ^ l < 1024 by omega) w
  refine ⟨nI p, nI k, w', upd last l (la l), ?_, rfl, rfl, fun q hq => ?_, fun j hj => ?_⟩
  · simp (disch := omega) only [n_lt, n_le, n_eq, n_cl, n_sub, nI_add, pk_mul, n_subL, n_Lsub, n_neN, n_Nne, n_leN, n_ltN, n_Nlt, n_Nle, le_T, le_F, lt_T, lt_F, eq_T, eq_F, true_or, or_true, false_or, or_false, true_and, and_true, false_and, and_false, and_self, or_self, not_true_eq_false, not_false_eq_true, decide_eq_true_eq, decide_true, decide_false, Bool.false_eq_true, Bool.true_eq_false, eq_self, ↓reduceIte, Option.bind_some, mo_in, lit_0, lit_1, lit_2, lit_3, lit_4, lit_5, lit_6, lit_7, lit_8, lit_9, lit_10, lit_11, lit_12, lit_13, lit_14, lit_15, lit_16, lit_20, lit_22, lit_24, lit_28, lit_30, lit_31, lit_32, lit_39, lit_40, lit_42, lit_48, lit_50, lit_57, lit_60, lit_61, lit_62, lit_63, lit_64, lit_100, lit_120, lit_121, lit_122, lit_128, lit_130, lit_255, lit_256, lit_360, lit_1024, lit_2147483647, m1_pred, Nat.add_sub_cancel, lit_124, lit_38, lit_37, lit_33, lit_126, lit_59, lit_112, lit_108, lit_110, lit_104, lit_47, lit_43, lit_45, lit_41, lit_123, lit_49, lit_58, lit_68, f_Wa_stepBack, e1, q_shl, fb_xorI, e3, x_back]
  · rw [g3, hH q hq]
    unfold hs
    by_cases e : q = p ^^^ 2 ^ l
    · subst e; simp [hnew]
    · simp [e]
  · by_cases e : j = l
    · subst e; rw [pk_us]
    · rw [pk_un e, hL j hj, pk_un e]
theorem mo_go {n p k l : Nat} {H : Nat → Bool} {la : Nat → Int32} (hv : vd n p k la) (hl : l < n) {at_ night : Int32} {mhad mlast : Nat → Int32} (hw : mwk p k H la at_ night mhad mlast) : ∃ at' night' mlast' mhad', f_Mo_go (nI l) at_ night mlast mhad = some (la l, at', night', mlast', mhad') ∧ mwk (p ^^^ 2 ^ l) (k + 1) (hs H (p ^^^ 2 ^ l)) (upd la l (nI (k + 1))) at' night' mhad' mlast' := by
  obtain ⟨h1, h10, hp, hk, hla⟩ := hv
  obtain ⟨rfl, rfl, hH, hL⟩ := hw
  have hpow := p_pow h10
  have eq1 := x_lt (l := l) hp hl
  have e2 := hL l (by omega)
  refine ⟨nI (p ^^^ 2 ^ l), nI (k + 1), upd mlast l (nI (k + 1)), upd mhad (p ^^^ 2 ^ l) (nI 1), ?_, rfl, rfl, fun q hq => ?_, fun j hj => ?_⟩
  · simp (disch := omega) only [n_lt, n_le, n_eq, n_cl, n_sub, nI_add, pk_mul, n_subL, n_Lsub, n_neN, n_Nne, n_leN, n_ltN, n_Nlt, n_Nle, le_T, le_F, lt_T, lt_F, eq_T, eq_F, true_or, or_true, false_or, or_false, true_and, and_true, false_and, and_false, and_self, or_self, not_true_eq_false, not_false_eq_true, decide_eq_true_eq, decide_true, decide_false, Bool.false_eq_true, Bool.true_eq_false, eq_self, ↓reduceIte, Option.bind_some, mo_in, lit_0, lit_1, lit_2, lit_3, lit_4, lit_5, lit_6, lit_7, lit_8, lit_9, lit_10, lit_11, lit_12, lit_13, lit_14, lit_15, lit_16, lit_20, lit_22, lit_24, lit_28, lit_30, lit_31, lit_32, lit_39, lit_40, lit_42, lit_48, lit_50, lit_57, lit_60, lit_61, lit_62, lit_63, lit_64, lit_100, lit_120, lit_121, lit_122, lit_128, lit_130, lit_255, lit_256, lit_360, lit_1024, lit_2147483647, m1_pred, Nat.add_sub_cancel, lit_124, lit_38, lit_37, lit_33, lit_126, lit_59, lit_112, lit_108, lit_110, lit_104, lit_47, lit_43, lit_45, lit_41, lit_123, lit_49, lit_58, lit_68, f_Mo_go, q_shl, fb_xorI, e2, nar_1]
  · unfold hs
    by_cases e : q = p ^^^ 2 ^ l
    · subst e; rw [pk_us]; simp; rfl
    · rw [pk_un e, hH q hq]; simp [e]
  · by_cases e : j = l
    · subst e; rw [pk_us, pk_us]
    · rw [pk_un e, pk_un e, hL j hj]
theorem mo_back {n p k l : Nat} {H : Nat → Bool} {la : Nat → Int32} (hv : vd n p k la) (hl : l < n) (hnew : H (p ^^^ 2 ^ l) = false) {at_ night : Int32} {mhad mlast : Nat → Int32} (hw : mwk (p ^^^ 2 ^ l) (k + 1) (hs H (p ^^^ 2 ^ l)) (upd la l (nI (k + 1))) at_ night mhad mlast) : ∃ at' night' mlast' mhad', f_Mo_goBack (nI l) (la l) at_ night mlast mhad = some (at', night', mlast', mhad') ∧ mwk p k H la at' night' mhad' mlast' := by
  obtain ⟨h1, h10, hp, hk, hla⟩ := hv
  obtain ⟨rfl, rfl, hH, hL⟩ := hw
  have hpow := p_pow h10
  have eq1 := x_lt (l := l) hp hl
  refine ⟨nI p, nI k, upd mlast l (la l), upd mhad (p ^^^ 2 ^ l) (nI 0), ?_, rfl, rfl, fun q hq => ?_, fun j hj => ?_⟩
  · simp (disch := omega) only [n_lt, n_le, n_eq, n_cl, n_sub, nI_add, pk_mul, n_subL, n_Lsub, n_neN, n_Nne, n_leN, n_ltN, n_Nlt, n_Nle, le_T, le_F, lt_T, lt_F, eq_T, eq_F, true_or, or_true, false_or, or_false, true_and, and_true, false_and, and_false, and_self, or_self, not_true_eq_false, not_false_eq_true, decide_eq_true_eq, decide_true, decide_false, Bool.false_eq_true, Bool.true_eq_false, eq_self, ↓reduceIte, Option.bind_some, mo_in, lit_0, lit_1, lit_2, lit_3, lit_4, lit_5, lit_6, lit_7, lit_8, lit_9, lit_10, lit_11, lit_12, lit_13, lit_14, lit_15, lit_16, lit_20, lit_22, lit_24, lit_28, lit_30, lit_31, lit_32, lit_39, lit_40, lit_42, lit_48, lit_50, lit_57, lit_60, lit_61, lit_62, lit_63, lit_64, lit_100, lit_120, lit_121, lit_122, lit_128, lit_130, lit_255, lit_256, lit_360, lit_1024, lit_2147483647, m1_pred, Nat.add_sub_cancel, lit_124, lit_38, lit_37, lit_33, lit_126, lit_59, lit_112, lit_108, lit_110, lit_104, lit_47, lit_43, lit_45, lit_41, lit_123, lit_49, lit_58, lit_68, f_Mo_goBack, q_shl, fb_xorI, nar_0, x_back]
  · by_cases e : q = p ^^^ 2 ^ l
    · subst e; rw [pk_us, hnew]; rfl
    · rw [pk_un e, hH q hq]; unfold hs; simp [e]
  · by_cases e : j = l
    · subst e; rw [pk_us]
    · rw [pk_un e, hL j hj, pk_un e]
theorem al_new {n : Nat} {rest shy : Int32} {B : Nat → Bool} {p k : Nat} {H : Nat → Bool} {la : Nat → Int32} {l : Nat} (h : al n rest shy B p k H la l = true) : H (p ^^^ 2 ^ l) = false := by
  unfold al at h
  simp only [Bool.and_eq_true] at h
  simpa using h.2.1
theorem mo_find {lines : List (List Int32 × List Int32)} {code act with_ lineMany testEnd lineEnd : Nat → Int32} {len : Int32} {hasLaw : Bool} (hS : lw_S lines code len hasLaw act with_ lineMany testEnd lineEnd) {n : Nat} (hn : n ≤ 10) {told : Nat → Int64} {mtold : Nat → Int32} (hT : ∀ q, q < 1024 → mtold q = b2i (bitw told q)) (facts pile barred : Nat → Int32) : ∃ facts' pile' barred', f_Mo_findBarred (nI n) hasLaw mtold facts lineMany testEnd act pile with_ lineEnd barred = some (facts', pile', barred') ∧ ∀ q, q < 2 ^ n → barred' q = b2i (bitw told q || decide (lw_lines (lw_env n q) lines ≠ 0)) := by
  have hpow := p_pow hn
  have e0 := mo_pics hn
  have h : ∀ (e i fu : Nat) (facts pile barred : Nat → Int32), i + e = 2 ^ n → e < fu → ∃ facts' pile' barred', f_Mo_findBarred_L2 fu (nI i) (nI n) hasLaw mtold facts lineMany testEnd act pile with_ lineEnd barred = some (facts', pile', barred') ∧ ∀ q, barred' q = if i ≤ q ∧ q < 2 ^ n then b2i (bitw told q || decide (lw_lines (lw_env n q) lines ≠ 0)) else barred q := by
    intro e
    induction e with
    | zero =>
      intro i fu facts pile barred hi hfu
      obtain ⟨m, rfl⟩ : ∃ m, fu = m + 1 := ⟨fu - 1, by omega⟩
      refine ⟨facts, pile, barred, ?_, fun q => by rw [if_neg (by omega)]⟩
      rw [f_Mo_findBarred_L2]
      simp (disch := omega) only [n_lt, n_le, n_eq, n_cl, n_sub, nI_add, pk_mul, n_subL, n_Lsub, n_neN, n_Nne, n_leN, n_ltN, n_Nlt, n_Nle, le_T, le_F, lt_T, lt_F, eq_T, eq_F, true_or, or_true, false_or, or_false, true_and, and_true, false_and, and_false, and_self, or_self, not_true_eq_false, not_false_eq_true, decide_eq_true_eq, decide_true, decide_false, Bool.false_eq_true, Bool.true_eq_false, eq_self, ↓reduceIte, Option.bind_some, mo_in, lit_0, lit_1, lit_2, lit_3, lit_4, lit_5, lit_6, lit_7, lit_8, lit_9, lit_10, lit_11, lit_12, lit_13, lit_14, lit_15, lit_16, lit_20, lit_22, lit_24, lit_28, lit_30, lit_31, lit_32, lit_39, lit_40, lit_42, lit_48, lit_50, lit_57, lit_60, lit_61, lit_62, lit_63, lit_64, lit_100, lit_120, lit_121, lit_122, lit_128, lit_130, lit_255, lit_256, lit_360, lit_1024, lit_2147483647, m1_pred, Nat.add_sub_cancel, lit_124, lit_38, lit_37, lit_33, lit_126, lit_59, lit_112, lit_108, lit_110, lit_104, lit_47, lit_43, lit_45, lit_41, lit_123, lit_49, lit_58, lit_68, e0]
    | succ e ih =>
      intro i fu facts pile barred hi hfu
      obtain ⟨m, rfl⟩ : ∃ m, fu = m + 1 := ⟨fu - 1, by omega⟩
      obtain ⟨fa, pi, e1⟩ := mo_barred (n := n) hS (show i < 1024 by omega) hT facts pile
      obtain ⟨fa', pi', ba', e2, g2⟩ := ih (i + 1) m fa pi (upd barred i (b2i (bitw told i || decide (lw_lines (lw_env n i) lines ≠ 0)))) (by omega) (by omega)
      refine ⟨fa', pi', ba', ?_, upd_step (v := fun q => b2i (bitw told q || decide (lw_lines (lw_env n q) lines ≠ 0))) (by omega) g2⟩
      rw [← e2, f_Mo_findBarred_L2]
      simp (disch := omega) only [n_lt, n_le, n_eq, n_cl, n_sub, nI_add, pk_mul, n_subL, n_Lsub, n_neN, n_Nne, n_leN, n_ltN, n_Nlt, n_Nle, le_T, le_F, lt_T, lt_F, eq_T, eq_F, true_or, or_true, false_or, or_false, true_and, and_true, false_and, and_false, and_self, or_self, not_true_eq_false, not_false_eq_true, decide_eq_true_eq, decide_true, decide_false, Bool.false_eq_true, Bool.true_eq_false, eq_self, ↓reduceIte, Option.bind_some, mo_in, lit_0, lit_1, lit_2, lit_3, lit_4, lit_5, lit_6, lit_7, lit_8, lit_9, lit_10, lit_11, lit_12, lit_13, lit_14, lit_15, lit_16, lit_20, lit_22, lit_24, lit_28, lit_30, lit_31, lit_32, lit_39, lit_40, lit_42, lit_48, lit_50, lit_57, lit_60, lit_61, lit_62, lit_63, lit_64, lit_100, lit_120, lit_121, lit_122, lit_128, lit_130, lit_255, lit_256, lit_360, lit_1024, lit_2147483647, m1_pred, Nat.add_sub_cancel, lit_124, lit_38, lit_37, lit_33, lit_126, lit_59, lit_112, lit_108, lit_110, lit_104, lit_47, lit_43, lit_45, lit_41, lit_123, lit_49, lit_58, lit_68, e0, e1, vp_nar_b]
  obtain ⟨a, b, c, h1, h2⟩ := h (2 ^ n) 0 3000 facts pile barred (by omega) (by omega)
  exact ⟨a, b, c, h1, fun q hq => by rw [h2, if_pos (by omega)]⟩
