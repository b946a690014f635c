/-! PURE: acts -/
theorem lit_70 : (70 : Int32) = nI 70 := rfl
theorem lit_80 : (80 : Int32) = nI 80 := rfl
theorem lit_81 : (81 : Int32) = nI 81 := rfl
def agr (r : Nat) (tr td : Nat → Int32) : Prop := ∀ j, j < r → j < 24 → tr j = td j
def nt (c : Int32) (r : Nat) (f : Nat → Int32) : Nat → Int32 := if r < 24 then upd f r c else f
theorem agr_nt {r : Nat} {tr td : Nat → Int32} (c : Int32) (h : agr r tr td) : agr (r + 1) (nt c r tr) (nt c r td) := by
  intro j hj h24
  unfold nt
  by_cases e : r < 24
  · rw [if_pos e, if_pos e]
    by_cases e2 : j = r
    · subst e2; rw [pk_us, pk_us]
    · rw [pk_un e2, pk_un e2]; exact h j (by omega) h24
  · rw [if_neg e, if_neg e]; exact h j (by omega) h24
theorem cl_note (c : Int32) {r : Nat} (hr : r < 2000) (tr : Nat → Int32) : f_Ac_note c (nI r) tr = some (nI (r + 1), nt c r tr) := by
  unfold f_Ac_note nt
  by_cases e : r < 24
  · simp (disch := omega) only [n_lt, n_le, n_eq, n_cl, n_sub, nI_add, pk_mul, n_subL, n_Lsub, n_neN, n_Nne, n_leN, n_ltN, n_Nlt, n_Nle, le_T, le_F, lt_T, lt_F, eq_T, eq_F, true_or, or_true, false_or, or_false, true_and, and_true, false_and, and_false, and_self, or_self, not_true_eq_false, not_false_eq_true, decide_eq_true_eq, decide_true, decide_false, Bool.false_eq_true, Bool.true_eq_false, eq_self, ↓reduceIte, Option.bind_some, mo_in, lit_0, lit_1, lit_2, lit_3, lit_4, lit_5, lit_6, lit_7, lit_8, lit_9, lit_10, lit_11, lit_12, lit_13, lit_14, lit_15, lit_16, lit_20, lit_22, lit_24, lit_28, lit_30, lit_31, lit_32, lit_39, lit_40, lit_42, lit_48, lit_50, lit_57, lit_60, lit_61, lit_62, lit_63, lit_64, lit_100, lit_120, lit_121, lit_122, lit_128, lit_130, lit_255, lit_256, lit_360, lit_1024, lit_2147483647, m1_pred, Nat.add_sub_cancel, lit_124, lit_38, lit_37, lit_33, lit_126, lit_59, lit_112, lit_108, lit_110, lit_104, lit_47, lit_43, lit_45, lit_41, lit_123, lit_49, lit_58, lit_68]
  · simp (disch := omega) only [n_lt, n_le, n_eq, n_cl, n_sub, nI_add, pk_mul, n_subL, n_Lsub, n_neN, n_Nne, n_leN, n_ltN, n_Nlt, n_Nle, le_T, le_F, lt_T, lt_F, eq_T, eq_F, true_or, or_true, false_or, or_false, true_and, and_true, false_and, and_false, and_self, or_self, not_true_eq_false, not_false_eq_true, decide_eq_true_eq, decide_true, decide_false, Bool.false_eq_true, Bool.true_eq_false, eq_self, ↓reduceIte, Option.bind_some, mo_in, lit_0, lit_1, lit_2, lit_3, lit_4, lit_5, lit_6, lit_7, lit_8, lit_9, lit_10, lit_11, lit_12, lit_13, lit_14, lit_15, lit_16, lit_20, lit_22, lit_24, lit_28, lit_30, lit_31, lit_32, lit_39, lit_40, lit_42, lit_48, lit_50, lit_57, lit_60, lit_61, lit_62, lit_63, lit_64, lit_100, lit_120, lit_121, lit_122, lit_128, lit_130, lit_255, lit_256, lit_360, lit_1024, lit_2147483647, m1_pred, Nat.add_sub_cancel, lit_124, lit_38, lit_37, lit_33, lit_126, lit_59, lit_112, lit_108, lit_110, lit_104, lit_47, lit_43, lit_45, lit_41, lit_123, lit_49, lit_58, lit_68]
theorem mo_ran (c : Int32) {r : Nat} (hr : r < 2000) (tr : Nat → Int32) : f_Mo_ran c (nI r) tr = some (nI (r + 1), nt c r tr) := by
  unfold f_Mo_ran nt
  by_cases e : r < 24
  · simp (disch := omega) only [n_lt, n_le, n_eq, n_cl, n_sub, nI_add, pk_mul, n_subL, n_Lsub, n_neN, n_Nne, n_leN, n_ltN, n_Nlt, n_Nle, le_T, le_F, lt_T, lt_F, eq_T, eq_F, true_or, or_true, false_or, or_false, true_and, and_true, false_and, and_false, and_self, or_self, not_true_eq_false, not_false_eq_true, decide_eq_true_eq, decide_true, decide_false, Bool.false_eq_true, Bool.true_eq_false, eq_self, ↓reduceIte, Option.bind_some, mo_in, lit_0, lit_1, lit_2, lit_3, lit_4, lit_5, lit_6, lit_7, lit_8, lit_9, lit_10, lit_11, lit_12, lit_13, lit_14, lit_15, lit_16, lit_20, lit_22, lit_24, lit_28, lit_30, lit_31, lit_32, lit_39, lit_40, lit_42, lit_48, lit_50, lit_57, lit_60, lit_61, lit_62, lit_63, lit_64, lit_100, lit_120, lit_121, lit_122, lit_128, lit_130, lit_255, lit_256, lit_360, lit_1024, lit_2147483647, m1_pred, Nat.add_sub_cancel, lit_124, lit_38, lit_37, lit_33, lit_126, lit_59, lit_112, lit_108, lit_110, lit_104, lit_47, lit_43, lit_45, lit_41, lit_123, lit_49, lit_58, lit_68]
  · simp (disch := omega) only [n_lt, n_le, n_eq, n_cl, n_sub, nI_add, pk_mul, n_subL, n_Lsub, n_neN, n_Nne, n_leN, n_ltN, n_Nlt, n_Nle, le_T, le_F, lt_T, lt_F, eq_T, eq_F, true_or, or_true, false_or, or_false, true_and, and_true, false_and, and_false, and_self, or_self, not_true_eq_false, not_false_eq_true, decide_eq_true_eq, decide_true, decide_false, Bool.false_eq_true, Bool.true_eq_false, eq_self, ↓reduceIte, Option.bind_some, mo_in, lit_0, lit_1, lit_2, lit_3, lit_4, lit_5, lit_6, lit_7, lit_8, lit_9, lit_10, lit_11, lit_12, lit_13, lit_14, lit_15, lit_16, lit_20, lit_22, lit_24, lit_28, lit_30, lit_31, lit_32, lit_39, lit_40, lit_42, lit_48, lit_50, lit_57, lit_60, lit_61, lit_62, lit_63, lit_64, lit_100, lit_120, lit_121, lit_122, lit_128, lit_130, lit_255, lit_256, lit_360, lit_1024, lit_2147483647, m1_pred, Nat.add_sub_cancel, lit_124, lit_38, lit_37, lit_33, lit_126, lit_59, lit_112, lit_108, lit_110, lit_104, lit_47, lit_43, lit_45, lit_41, lit_123, lit_49, lit_58, lit_68]
/-- class and model do alike, K steps at most in the trace -/
def alike (K : Nat) (fc fm : Int32 → (Nat → Int32) → Option (Int32 × Int32 × (Nat → Int32))) : Prop := ∀ (r : Nat) (tr td : Nat → Int32), r + K ≤ 900 → agr r tr td → ∃ (v : Int32) (r' : Nat) (tr' td' : Nat → Int32), fc (nI r) tr = some (v, nI r', tr') ∧ fm (nI r) td = some (v, nI r', td') ∧ agr r' tr' td' ∧ r' ≤ r + K
def cr (fu act kind : Nat) (x : Int32) (dep : Nat) (bodies b : Int32) (kinds : Nat → Int32) : Int32 → (Nat → Int32) → Option (Int32 × Int32 × (Nat → Int32)) := fun r tr => f_Ac_run fu (nI act) (nI kind) x (nI dep) bodies r b kinds tr
theorem ab_1 : g_ABOVE 1 = nI 0 := rfl
theorem ab_2 : g_ABOVE 2 = nI 0 := rfl
theorem ab_3 : g_ABOVE 3 = nI 2 := rfl
theorem ab_4 : g_ABOVE 4 = nI 1 := rfl
theorem ab_5 : g_ABOVE 5 = nI 4 := rfl
theorem ab_6 : g_ABOVE 6 = nI 0 := rfl
theorem ab_7 : g_ABOVE 7 = nI 6 := rfl
theorem ho_0_0 : f_Ac_holderOf (nI 0) (nI 0) = some (nI 0) := by decide +kernel
theorem bo_0_0 : f_Ac_bodyOf (nI 0) (nI 0) = some (nI 1) := by decide +kernel
theorem ho_0_1 : f_Ac_holderOf (nI 0) (nI 1) = some (nI 1) := by decide +kernel
theorem bo_0_1 : f_Ac_bodyOf (nI 0) (nI 1) = some (nI 20) := by decide +kernel
theorem ho_0_2 : f_Ac_holderOf (nI 0) (nI 2) = some (nI 0) := by decide +kernel
theorem ho_0_3 : f_Ac_holderOf (nI 0) (nI 3) = some (nI 0) := by decide +kernel
theorem ho_0_4 : f_Ac_holderOf (nI 0) (nI 4) = some (nI 1) := by decide +kernel
theorem ho_0_5 : f_Ac_holderOf (nI 0) (nI 5) = some (nI 1) := by decide +kernel
theorem ho_0_6 : f_Ac_holderOf (nI 0) (nI 6) = some (nI 6) := by decide +kernel
theorem bo_0_6 : f_Ac_bodyOf (nI 0) (nI 6) = some (nI 70) := by decide +kernel
theorem ho_0_7 : f_Ac_holderOf (nI 0) (nI 7) = some (nI 7) := by decide +kernel
theorem bo_0_7 : f_Ac_bodyOf (nI 0) (nI 7) = some (nI 81) := by decide +kernel
theorem ho_1_0 : f_Ac_holderOf (nI 1) (nI 0) = some (nI 0) := by decide +kernel
theorem bo_1_0 : f_Ac_bodyOf (nI 1) (nI 0) = some (nI 10) := by decide +kernel
theorem ho_1_1 : f_Ac_holderOf (nI 1) (nI 1) = some (nI 0) := by decide +kernel
theorem ho_1_2 : f_Ac_holderOf (nI 1) (nI 2) = some (nI 2) := by decide +kernel
theorem bo_1_2 : f_Ac_bodyOf (nI 1) (nI 2) = some (nI 30) := by decide +kernel
theorem ho_1_3 : f_Ac_holderOf (nI 1) (nI 3) = some (nI 3) := by decide +kernel
theorem bo_1_3 : f_Ac_bodyOf (nI 1) (nI 3) = some (nI 41) := by decide +kernel
theorem ho_1_4 : f_Ac_holderOf (nI 1) (nI 4) = some (nI 0) := by decide +kernel
theorem ho_1_5 : f_Ac_holderOf (nI 1) (nI 5) = some (nI 0) := by decide +kernel
theorem ho_1_6 : f_Ac_holderOf (nI 1) (nI 6) = some (nI 0) := by decide +kernel
theorem ho_1_7 : f_Ac_holderOf (nI 1) (nI 7) = some (nI 7) := by decide +kernel
theorem bo_1_7 : f_Ac_bodyOf (nI 1) (nI 7) = some (nI 80) := by decide +kernel
theorem ho_2_0 : f_Ac_holderOf (nI 2) (nI 0) = some (nI 0) := by decide +kernel
theorem bo_2_0 : f_Ac_bodyOf (nI 2) (nI 0) = some (nI 11) := by decide +kernel
theorem ho_2_1 : f_Ac_holderOf (nI 2) (nI 1) = some (nI 0) := by decide +kernel
theorem ho_2_2 : f_Ac_holderOf (nI 2) (nI 2) = some (nI 0) := by decide +kernel
theorem ho_2_3 : f_Ac_holderOf (nI 2) (nI 3) = some (nI 3) := by decide +kernel
theorem bo_2_3 : f_Ac_bodyOf (nI 2) (nI 3) = some (nI 40) := by decide +kernel
theorem ho_2_4 : f_Ac_holderOf (nI 2) (nI 4) = some (nI 0) := by decide +kernel
theorem ho_2_5 : f_Ac_holderOf (nI 2) (nI 5) = some (nI 5) := by decide +kernel
theorem bo_2_5 : f_Ac_bodyOf (nI 2) (nI 5) = some (nI 60) := by decide +kernel
theorem ho_2_6 : f_Ac_holderOf (nI 2) (nI 6) = some (nI 0) := by decide +kernel
theorem ho_2_7 : f_Ac_holderOf (nI 2) (nI 7) = some (nI 0) := by decide +kernel
theorem ho_3_0 : f_Ac_holderOf (nI 3) (nI 0) = some (nI 0) := by decide +kernel
theorem bo_3_0 : f_Ac_bodyOf (nI 3) (nI 0) = some (nI 2) := by decide +kernel
theorem ho_3_1 : f_Ac_holderOf (nI 3) (nI 1) = some (nI 0) := by decide +kernel
theorem ho_3_2 : f_Ac_holderOf (nI 3) (nI 2) = some (nI 0) := by decide +kernel
theorem ho_3_3 : f_Ac_holderOf (nI 3) (nI 3) = some (nI 0) := by decide +kernel
theorem ho_3_4 : f_Ac_holderOf (nI 3) (nI 4) = some (nI 4) := by decide +kernel
theorem bo_3_4 : f_Ac_bodyOf (nI 3) (nI 4) = some (nI 50) := by decide +kernel
theorem ho_3_5 : f_Ac_holderOf (nI 3) (nI 5) = some (nI 5) := by decide +kernel
theorem bo_3_5 : f_Ac_bodyOf (nI 3) (nI 5) = some (nI 61) := by decide +kernel
theorem ho_3_6 : f_Ac_holderOf (nI 3) (nI 6) = some (nI 0) := by decide +kernel
theorem ho_3_7 : f_Ac_holderOf (nI 3) (nI 7) = some (nI 0) := by decide +kernel
theorem un_0_1 : f_Mo_isUnder (nI 0) (nI 1) = some false := by decide +kernel
theorem un_1_1 : f_Mo_isUnder (nI 1) (nI 1) = some true := by decide +kernel
theorem un_2_1 : f_Mo_isUnder (nI 2) (nI 1) = some false := by decide +kernel
theorem un_3_1 : f_Mo_isUnder (nI 3) (nI 1) = some false := by decide +kernel
theorem un_4_1 : f_Mo_isUnder (nI 4) (nI 1) = some true := by decide +kernel
theorem un_5_1 : f_Mo_isUnder (nI 5) (nI 1) = some true := by decide +kernel
theorem un_6_1 : f_Mo_isUnder (nI 6) (nI 1) = some false := by decide +kernel
theorem un_7_1 : f_Mo_isUnder (nI 7) (nI 1) = some false := by decide +kernel
theorem rc_1 {f act kind h c dep r : Nat} {x bodies b : Int32} {kinds tr : Nat → Int32} (h1 : f_Ac_holderOf (nI act) (nI kind) = some (nI h)) (hh : h < 8) (h3 : f_Ac_bodyOf (nI act) (nI h) = some (nI 1)) (hk : f_Ac_kindOf b bodies kinds = some (nI c)) (hd : dep ≤ 40) (hr : r < 2000) : f_Ac_run (f + 1) (nI act) (nI kind) x (nI dep) bodies (nI r) b kinds tr = some (x + b, nI (r + 1), nt (nI 1) r tr) := by
  have h2 : f_Ac_isKind (nI h) = some true := by unfold f_Ac_isKind; simp (disch := omega) only [n_lt, n_le, n_eq, n_cl, n_sub, nI_add, pk_mul, n_subL, n_Lsub, n_neN, n_Nne, n_leN, n_ltN, n_Nlt, n_Nle, le_T, le_F, lt_T, lt_F, eq_T, eq_F, true_or, or_true, false_or, or_false, true_and, and_true, false_and, and_false, and_self, or_self, not_true_eq_false, not_false_eq_true, decide_eq_true_eq, decide_true, decide_false, Bool.false_eq_true, Bool.true_eq_false, eq_self, ↓reduceIte, Option.bind_some, mo_in, lit_0, lit_1, lit_2, lit_3, lit_4, lit_5, lit_6, lit_7, lit_8, lit_9, lit_10, lit_11, lit_12, lit_13, lit_14, lit_15, lit_16, lit_20, lit_22, lit_24, lit_28, lit_30, lit_31, lit_32, lit_39, lit_40, lit_42, lit_48, lit_50, lit_57, lit_60, lit_61, lit_62, lit_63, lit_64, lit_100, lit_120, lit_121, lit_122, lit_128, lit_130, lit_255, lit_256, lit_360, lit_1024, lit_2147483647, m1_pred, Nat.add_sub_cancel, lit_124, lit_38, lit_37, lit_33, lit_126, lit_59, lit_112, lit_108, lit_110, lit_104, lit_47, lit_43, lit_45, lit_41, lit_123, lit_49, lit_58, lit_68]
  have ix := eq_false (n_in (i := h) hh (by omega))
  have hd2 : ((40 : Int32) < nI dep) = False := eq_false (by show ¬ nI 40 < nI dep; rw [n_lt (by omega) (by omega)]; omega)
  have nn := cl_note (nI 1) (r := r) hr tr
  rw [f_Ac_run, f_Ac_run_body, h1, Option.bind_some, if_neg (of_eq_false hd2), h2, Option.bind_some, if_pos rfl, hk, Option.bind_some, if_neg (of_eq_false ix), h3, Option.bind_some, nn, Option.bind_some]
  show (if nI 1 = 1 then _ else _) = _
  rw [if_pos (show nI 1 = 1 from rfl)]
theorem rc_2 {f act kind h c dep r : Nat} {x bodies b : Int32} {kinds tr : Nat → Int32} (h1 : f_Ac_holderOf (nI act) (nI kind) = some (nI h)) (hh : h < 8) (h3 : f_Ac_bodyOf (nI act) (nI h) = some (nI 2)) (hk : f_Ac_kindOf b bodies kinds = some (nI c)) (hd : dep ≤ 40) (hr : r < 2000) : f_Ac_run (f + 1) (nI act) (nI kind) x (nI dep) bodies (nI r) b kinds tr = (f_Ac_run f (nI 1) (nI c) x (nI (dep + 1)) bodies (nI (r + 1)) b kinds (nt (nI 2) r tr)).bind fun (v, r1, t1) => (f_Ac_run f (nI 2) (nI c) (nI 1) (nI (dep + 1)) bodies r1 b kinds t1).bind fun (v2, r2, t2) => some (v - v2, r2, t2) := by
  have h2 : f_Ac_isKind (nI h) = some true := by unfold f_Ac_isKind; simp (disch := omega) only [n_lt, n_le, n_eq, n_cl, n_sub, nI_add, pk_mul, n_subL, n_Lsub, n_neN, n_Nne, n_leN, n_ltN, n_Nlt, n_Nle, le_T, le_F, lt_T, lt_F, eq_T, eq_F, true_or, or_true, false_or, or_false, true_and, and_true, false_and, and_false, and_self, or_self, not_true_eq_false, not_false_eq_true, decide_eq_true_eq, decide_true, decide_false, Bool.false_eq_true, Bool.true_eq_false, eq_self, ↓reduceIte, Option.bind_some, mo_in, lit_0, lit_1, lit_2, lit_3, lit_4, lit_5, lit_6, lit_7, lit_8, lit_9, lit_10, lit_11, lit_12, lit_13, lit_14, lit_15, lit_16, lit_20, lit_22, lit_24, lit_28, lit_30, lit_31, lit_32, lit_39, lit_40, lit_42, lit_48, lit_50, lit_57, lit_60, lit_61, lit_62, lit_63, lit_64, lit_100, lit_120, lit_121, lit_122, lit_128, lit_130, lit_255, lit_256, lit_360, lit_1024, lit_2147483647, m1_pred, Nat.add_sub_cancel, lit_124, lit_38, lit_37, lit_33, lit_126, lit_59, lit_112, lit_108, lit_110, lit_104, lit_47, lit_43, lit_45, lit_41, lit_123, lit_49, lit_58, lit_68]
  have ix := eq_false (n_in (i := h) hh (by omega))
  have hd2 : ((40 : Int32) < nI dep) = False := eq_false (by show ¬ nI 40 < nI dep; rw [n_lt (by omega) (by omega)]; omega)
  have nn := cl_note (nI 2) (r := r) hr tr
  rw [f_Ac_run, f_Ac_run_body, h1, Option.bind_some, if_neg (of_eq_false hd2), h2, Option.bind_some, if_pos rfl, hk, Option.bind_some, if_neg (of_eq_false ix), h3, Option.bind_some, nn, Option.bind_some]
  show (if nI 2 = 1 then _ else _) = _
  rw [if_neg (show ¬ nI 2 = 1 by decide), if_pos (show nI 2 = 2 from rfl), show nI dep + (1 : Int32) = nI (dep + 1) from nI_1 dep]
  rfl
theorem rc_10 {f act kind h c dep r : Nat} {x bodies b : Int32} {kinds tr : Nat → Int32} (h1 : f_Ac_holderOf (nI act) (nI kind) = some (nI h)) (hh : h < 8) (h3 : f_Ac_bodyOf (nI act) (nI h) = some (nI 10)) (hk : f_Ac_kindOf b bodies kinds = some (nI c)) (hd : dep ≤ 40) (hr : r < 2000) : f_Ac_run (f + 1) (nI act) (nI kind) x (nI dep) bodies (nI r) b kinds tr = (f_Ac_run f (nI 0) (nI c) x (nI (dep + 1)) bodies (nI (r + 1)) b kinds (nt (nI 10) r tr)).bind fun (v, r1, t1) => some (v * nI 2, r1, t1) := by
  have h2 : f_Ac_isKind (nI h) = some true := by unfold f_Ac_isKind; simp (disch := omega) only [n_lt, n_le, n_eq, n_cl, n_sub, nI_add, pk_mul, n_subL, n_Lsub, n_neN, n_Nne, n_leN, n_ltN, n_Nlt, n_Nle, le_T, le_F, lt_T, lt_F, eq_T, eq_F, true_or, or_true, false_or, or_false, true_and, and_true, false_and, and_false, and_self, or_self, not_true_eq_false, not_false_eq_true, decide_eq_true_eq, decide_true, decide_false, Bool.false_eq_true, Bool.true_eq_false, eq_self, ↓reduceIte, Option.bind_some, mo_in, lit_0, lit_1, lit_2, lit_3, lit_4, lit_5, lit_6, lit_7, lit_8, lit_9, lit_10, lit_11, lit_12, lit_13, lit_14, lit_15, lit_16, lit_20, lit_22, lit_24, lit_28, lit_30, lit_31, lit_32, lit_39, lit_40, lit_42, lit_48, lit_50, lit_57, lit_60, lit_61, lit_62, lit_63, lit_64, lit_100, lit_120, lit_121, lit_122, lit_128, lit_130, lit_255, lit_256, lit_360, lit_1024, lit_2147483647, m1_pred, Nat.add_sub_cancel, lit_124, lit_38, lit_37, lit_33, lit_126, lit_59, lit_112, lit_108, lit_110, lit_104, lit_47, lit_43, lit_45, lit_41, lit_123, lit_49, lit_58, lit_68]
  have ix := eq_false (n_in (i := h) hh (by omega))
  have hd2 : ((40 : Int32) < nI dep) = False := eq_false (by show ¬ nI 40 < nI dep; rw [n_lt (by omega) (by omega)]; omega)
  have nn := cl_note (nI 10) (r := r) hr tr
  rw [f_Ac_run, f_Ac_run_body, h1, Option.bind_some, if_neg (of_eq_false hd2), h2, Option.bind_some, if_pos rfl, hk, Option.bind_some, if_neg (of_eq_false ix), h3, Option.bind_some, nn, Option.bind_some]
  show (if nI 10 = 1 then _ else _) = _
  rw [if_neg (show ¬ nI 10 = 1 by decide), if_neg (show ¬ nI 10 = 2 by decide), if_pos (show nI 10 = 10 from rfl), show nI dep + (1 : Int32) = nI (dep + 1) from nI_1 dep]
  rfl
theorem rc_11 {f act kind h c dep r : Nat} {x bodies b : Int32} {kinds tr : Nat → Int32} (h1 : f_Ac_holderOf (nI act) (nI kind) = some (nI h)) (hh : h < 8) (h3 : f_Ac_bodyOf (nI act) (nI h) = some (nI 11)) (hk : f_Ac_kindOf b bodies kinds = some (nI c)) (hd : dep ≤ 40) (hr : r < 2000) : f_Ac_run (f + 1) (nI act) (nI kind) x (nI dep) bodies (nI r) b kinds tr = some (x ^^^ b, nI (r + 1), nt (nI 11) r tr) := by
  have h2 : f_Ac_isKind (nI h) = some true := by unfold f_Ac_isKind; simp (disch := omega) only [n_lt, n_le, n_eq, n_cl, n_sub, nI_add, pk_mul, n_subL, n_Lsub, n_neN, n_Nne, n_leN, n_ltN, n_Nlt, n_Nle, le_T, le_F, lt_T, lt_F, eq_T, eq_F, true_or, or_true, false_or, or_false, true_and, and_true, false_and, and_false, and_self, or_self, not_true_eq_false, not_false_eq_true, decide_eq_true_eq, decide_true, decide_false, Bool.false_eq_true, Bool.true_eq_false, eq_self, ↓reduceIte, Option.bind_some, mo_in, lit_0, lit_1, lit_2, lit_3, lit_4, lit_5, lit_6, lit_7, lit_8, lit_9, lit_10, lit_11, lit_12, lit_13, lit_14, lit_15, lit_16, lit_20, lit_22, lit_24, lit_28, lit_30, lit_31, lit_32, lit_39, lit_40, lit_42, lit_48, lit_50, lit_57, lit_60, lit_61, lit_62, lit_63, lit_64, lit_100, lit_120, lit_121, lit_122, lit_128, lit_130, lit_255, lit_256, lit_360, lit_1024, lit_2147483647, m1_pred, Nat.add_sub_cancel, lit_124, lit_38, lit_37, lit_33, lit_126, lit_59, lit_112, lit_108, lit_110, lit_104, lit_47, lit_43, lit_45, lit_41, lit_123, lit_49, lit_58, lit_68]
  have ix := eq_false (n_in (i := h) hh (by omega))
  have hd2 : ((40 : Int32) < nI dep) = False := eq_false (by show ¬ nI 40 < nI dep; rw [n_lt (by omega) (by omega)]; omega)
  have nn := cl_note (nI 11) (r := r) hr tr
  rw [f_Ac_run, f_Ac_run_body, h1, Option.bind_some, if_neg (of_eq_false hd2), h2, Option.bind_some, if_pos rfl, hk, Option.bind_some, if_neg (of_eq_false ix), h3, Option.bind_some, nn, Option.bind_some]
  show (if nI 11 = 1 then _ else _) = _
  rw [if_neg (show ¬ nI 11 = 1 by decide), if_neg (show ¬ nI 11 = 2 by decide), if_neg (show ¬ nI 11 = 10 by decide), if_pos (show nI 11 = 11 from rfl)]
theorem rc_20 {f act kind h c dep r : Nat} {x bodies b : Int32} {kinds tr : Nat → Int32} (h1 : f_Ac_holderOf (nI act) (nI kind) = some (nI h)) (hh : h < 8) (h3 : f_Ac_bodyOf (nI act) (nI h) = some (nI 20)) (hk : f_Ac_kindOf b bodies kinds = some (nI c)) (hd : dep ≤ 40) (hr : r < 2000) : f_Ac_run (f + 1) (nI act) (nI kind) x (nI dep) bodies (nI r) b kinds tr = (f_Ac_run f (nI 0) (g_ABOVE h) x (nI (dep + 1)) bodies (nI (r + 1)) b kinds (nt (nI 20) r tr)).bind fun (v, r1, t1) => some (v + nI 3, r1, t1) := by
  have h2 : f_Ac_isKind (nI h) = some true := by unfold f_Ac_isKind; simp (disch := omega) only [n_lt, n_le, n_eq, n_cl, n_sub, nI_add, pk_mul, n_subL, n_Lsub, n_neN, n_Nne, n_leN, n_ltN, n_Nlt, n_Nle, le_T, le_F, lt_T, lt_F, eq_T, eq_F, true_or, or_true, false_or, or_false, true_and, and_true, false_and, and_false, and_self, or_self, not_true_eq_false, not_false_eq_true, decide_eq_true_eq, decide_true, decide_false, Bool.false_eq_true, Bool.true_eq_false, eq_self, ↓reduceIte, Option.bind_some, mo_in, lit_0, lit_1, lit_2, lit_3, lit_4, lit_5, lit_6, lit_7, lit_8, lit_9, lit_10, lit_11, lit_12, lit_13, lit_14, lit_15, lit_16, lit_20, lit_22, lit_24, lit_28, lit_30, lit_31, lit_32, lit_39, lit_40, lit_42, lit_48, lit_50, lit_57, lit_60, lit_61, lit_62, lit_63, lit_64, lit_100, lit_120, lit_121, lit_122, lit_128, lit_130, lit_255, lit_256, lit_360, lit_1024, lit_2147483647, m1_pred, Nat.add_sub_cancel, lit_124, lit_38, lit_37, lit_33, lit_126, lit_59, lit_112, lit_108, lit_110, lit_104, lit_47, lit_43, lit_45, lit_41, lit_123, lit_49, lit_58, lit_68]
  have ix := eq_false (n_in (i := h) hh (by omega))
  have hd2 : ((40 : Int32) < nI dep) = False := eq_false (by show ¬ nI 40 < nI dep; rw [n_lt (by omega) (by omega)]; omega)
  have nn := cl_note (nI 20) (r := r) hr tr
  rw [f_Ac_run, f_Ac_run_body, h1, Option.bind_some, if_neg (of_eq_false hd2), h2, Option.bind_some, if_pos rfl, hk, Option.bind_some, if_neg (of_eq_false ix), h3, Option.bind_some, nn, Option.bind_some]
  show (if nI 20 = 1 then _ else _) = _
  rw [if_neg (show ¬ nI 20 = 1 by decide), if_neg (show ¬ nI 20 = 2 by decide), if_neg (show ¬ nI 20 = 10 by decide), if_neg (show ¬ nI 20 = 11 by decide), if_pos (show nI 20 = 20 from rfl), n_cl (a := h) (by omega), show nI dep + (1 : Int32) = nI (dep + 1) from nI_1 dep]
  rfl
theorem rc_30 {f act kind h c dep r : Nat} {x bodies b : Int32} {kinds tr : Nat → Int32} (h1 : f_Ac_holderOf (nI act) (nI kind) = some (nI h)) (hh : h < 8) (h3 : f_Ac_bodyOf (nI act) (nI h) = some (nI 30)) (hk : f_Ac_kindOf b bodies kinds = some (nI c)) (hd : dep ≤ 40) (hr : r < 2000) : f_Ac_run (f + 1) (nI act) (nI kind) x (nI dep) bodies (nI r) b kinds tr = (f_Ac_run f (nI 1) (g_ABOVE h) x (nI (dep + 1)) bodies (nI (r + 1)) b kinds (nt (nI 30) r tr)).bind fun (v, r1, t1) => some (-v, r1, t1) := by
  have h2 : f_Ac_isKind (nI h) = some true := by unfold f_Ac_isKind; simp (disch := omega) only [n_lt, n_le, n_eq, n_cl, n_sub, nI_add, pk_mul, n_subL, n_Lsub, n_neN, n_Nne, n_leN, n_ltN, n_Nlt, n_Nle, le_T, le_F, lt_T, lt_F, eq_T, eq_F, true_or, or_true, false_or, or_false, true_and, and_true, false_and, and_false, and_self, or_self, not_true_eq_false, not_false_eq_true, decide_eq_true_eq, decide_true, decide_false, Bool.false_eq_true, Bool.true_eq_false, eq_self, ↓reduceIte, Option.bind_some, mo_in, lit_0, lit_1, lit_2, lit_3, lit_4, lit_5, lit_6, lit_7, lit_8, lit_9, lit_10, lit_11, lit_12, lit_13, lit_14, lit_15, lit_16, lit_20, lit_22, lit_24, lit_28, lit_30, lit_31, lit_32, lit_39, lit_40, lit_42, lit_48, lit_50, lit_57, lit_60, lit_61, lit_62, lit_63, lit_64, lit_100, lit_120, lit_121, lit_122, lit_128, lit_130, lit_255, lit_256, lit_360, lit_1024, lit_2147483647, m1_pred, Nat.add_sub_cancel, lit_124, lit_38, lit_37, lit_33, lit_126, lit_59, lit_112, lit_108, lit_110, lit_104, lit_47, lit_43, lit_45, lit_41, lit_123, lit_49, lit_58, lit_68]
  have ix := eq_false (n_in (i := h) hh (by omega))
  have hd2 : ((40 : Int32) < nI dep) = False := eq_false (by show ¬ nI 40 < nI dep; rw [n_lt (by omega) (by omega)]; omega)
  have nn := cl_note (nI 30) (r := r) hr tr
  rw [f_Ac_run, f_Ac_run_body, h1, Option.bind_some, if_neg (of_eq_false hd2), h2, Option.bind_some, if_pos rfl, hk, Option.bind_some, if_neg (of_eq_false ix), h3, Option.bind_some, nn, Option.bind_some]
  show (if nI 30 = 1 then _ else _) = _
  rw [if_neg (show ¬ nI 30 = 1 by decide), if_neg (show ¬ nI 30 = 2 by decide), if_neg (show ¬ nI 30 = 10 by decide), if_neg (show ¬ nI 30 = 11 by decide), if_neg (show ¬ nI 30 = 20 by decide), if_pos (show nI 30 = 30 from rfl), n_cl (a := h) (by omega), show nI dep + (1 : Int32) = nI (dep + 1) from nI_1 dep]
  rfl
theorem rc_40 {f act kind h c dep r : Nat} {x bodies b : Int32} {kinds tr : Nat → Int32} (h1 : f_Ac_holderOf (nI act) (nI kind) = some (nI h)) (hh : h < 8) (h3 : f_Ac_bodyOf (nI act) (nI h) = some (nI 40)) (hk : f_Ac_kindOf b bodies kinds = some (nI c)) (hd : dep ≤ 40) (hr : r < 2000) : f_Ac_run (f + 1) (nI act) (nI kind) x (nI dep) bodies (nI r) b kinds tr = (f_Ac_run f (nI 2) (g_ABOVE h) x (nI (dep + 1)) bodies (nI (r + 1)) b kinds (nt (nI 40) r tr)).bind fun (v, r1, t1) => some (v * nI 3, r1, t1) := by
  have h2 : f_Ac_isKind (nI h) = some true := by unfold f_Ac_isKind; simp (disch := omega) only [n_lt, n_le, n_eq, n_cl, n_sub, nI_add, pk_mul, n_subL, n_Lsub, n_neN, n_Nne, n_leN, n_ltN, n_Nlt, n_Nle, le_T, le_F, lt_T, lt_F, eq_T, eq_F, true_or, or_true, false_or, or_false, true_and, and_true, false_and, and_false, and_self, or_self, not_true_eq_false, not_false_eq_true, decide_eq_true_eq, decide_true, decide_false, Bool.false_eq_true, Bool.true_eq_false, eq_self, ↓reduceIte, Option.bind_some, mo_in, lit_0, lit_1, lit_2, lit_3, lit_4, lit_5, lit_6, lit_7, lit_8, lit_9, lit_10, lit_11, lit_12, lit_13, lit_14, lit_15, lit_16, lit_20, lit_22, lit_24, lit_28, lit_30, lit_31, lit_32, lit_39, lit_40, lit_42, lit_48, lit_50, lit_57, lit_60, lit_61, lit_62, lit_63, lit_64, lit_100, lit_120, lit_121, lit_122, lit_128, lit_130, lit_255, lit_256, lit_360, lit_1024, lit_2147483647, m1_pred, Nat.add_sub_cancel, lit_124, lit_38, lit_37, lit_33, lit_126, lit_59, lit_112, lit_108, lit_110, lit_104, lit_47, lit_43, lit_45, lit_41, lit_123, lit_49, lit_58, lit_68]
  have ix := eq_false (n_in (i := h) hh (by omega))
  have hd2 : ((40 : Int32) < nI dep) = False := eq_false (by show ¬ nI 40 < nI dep; rw [n_lt (by omega) (by omega)]; omega)
  have nn := cl_note (nI 40) (r := r) hr tr
  rw [f_Ac_run, f_Ac_run_body, h1, Option.bind_some, if_neg (of_eq_false hd2), h2, Option.bind_some, if_pos rfl, hk, Option.bind_some, if_neg (of_eq_false ix), h3, Option.bind_some, nn, Option.bind_some]
  show (if nI 40 = 1 then _ else _) = _
  rw [if_neg (show ¬ nI 40 = 1 by decide), if_neg (show ¬ nI 40 = 2 by decide), if_neg (show ¬ nI 40 = 10 by decide), if_neg (show ¬ nI 40 = 11 by decide), if_neg (show ¬ nI 40 = 20 by decide), if_neg (show ¬ nI 40 = 30 by decide), if_pos (show nI 40 = 40 from rfl), n_cl (a := h) (by omega), show nI dep + (1 : Int32) = nI (dep + 1) from nI_1 dep]
  rfl
theorem rc_41 {f act kind h c dep r : Nat} {x bodies b : Int32} {kinds tr : Nat → Int32} (h1 : f_Ac_holderOf (nI act) (nI kind) = some (nI h)) (hh : h < 8) (h3 : f_Ac_bodyOf (nI act) (nI h) = some (nI 41)) (hk : f_Ac_kindOf b bodies kinds = some (nI c)) (hd : dep ≤ 40) (hr : r < 2000) : f_Ac_run (f + 1) (nI act) (nI kind) x (nI dep) bodies (nI r) b kinds tr = (f_Ac_run f (nI 1) (g_ABOVE h) (x + nI 1) (nI (dep + 1)) bodies (nI (r + 1)) b kinds (nt (nI 41) r tr)).bind fun (v, r1, t1) => some (v, r1, t1) := by
  have h2 : f_Ac_isKind (nI h) = some true := by unfold f_Ac_isKind; simp (disch := omega) only [n_lt, n_le, n_eq, n_cl, n_sub, nI_add, pk_mul, n_subL, n_Lsub, n_neN, n_Nne, n_leN, n_ltN, n_Nlt, n_Nle, le_T, le_F, lt_T, lt_F, eq_T, eq_F, true_or, or_true, false_or, or_false, true_and, and_true, false_and, and_false, and_self, or_self, not_true_eq_false, not_false_eq_true, decide_eq_true_eq, decide_true, decide_false, Bool.false_eq_true, Bool.true_eq_false, eq_self, ↓reduceIte, Option.bind_some, mo_in, lit_0, lit_1, lit_2, lit_3, lit_4, lit_5, lit_6, lit_7, lit_8, lit_9, lit_10, lit_11, lit_12, lit_13, lit_14, lit_15, lit_16, lit_20, lit_22, lit_24, lit_28, lit_30, lit_31, lit_32, lit_39, lit_40, lit_42, lit_48, lit_50, lit_57, lit_60, lit_61, lit_62, lit_63, lit_64, lit_100, lit_120, lit_121, lit_122, lit_128, lit_130, lit_255, lit_256, lit_360, lit_1024, lit_2147483647, m1_pred, Nat.add_sub_cancel, lit_124, lit_38, lit_37, lit_33, lit_126, lit_59, lit_112, lit_108, lit_110, lit_104, lit_47, lit_43, lit_45, lit_41, lit_123, lit_49, lit_58, lit_68]
  have ix := eq_false (n_in (i := h) hh (by omega))
  have hd2 : ((40 : Int32) < nI dep) = False := eq_false (by show ¬ nI 40 < nI dep; rw [n_lt (by omega) (by omega)]; omega)
  have nn := cl_note (nI 41) (r := r) hr tr
  rw [f_Ac_run, f_Ac_run_body, h1, Option.bind_some, if_neg (of_eq_false hd2), h2, Option.bind_some, if_pos rfl, hk, Option.bind_some, if_neg (of_eq_false ix), h3, Option.bind_some, nn, Option.bind_some]
  show (if nI 41 = 1 then _ else _) = _
  rw [if_neg (show ¬ nI 41 = 1 by decide), if_neg (show ¬ nI 41 = 2 by decide), if_neg (show ¬ nI 41 = 10 by decide), if_neg (show ¬ nI 41 = 11 by decide), if_neg (show ¬ nI 41 = 20 by decide), if_neg (show ¬ nI 41 = 30 by decide), if_neg (show ¬ nI 41 = 40 by decide), if_pos (show nI 41 = 41 from rfl), n_cl (a := h) (by omega), show nI dep + (1 : Int32) = nI (dep + 1) from nI_1 dep]
  rfl
theorem rc_50 {f act kind h c dep r : Nat} {x bodies b : Int32} {kinds tr : Nat → Int32} (h1 : f_Ac_holderOf (nI act) (nI kind) = some (nI h)) (hh : h < 8) (h3 : f_Ac_bodyOf (nI act) (nI h) = some (nI 50)) (hk : f_Ac_kindOf b bodies kinds = some (nI c)) (hd : dep ≤ 40) (hr : r < 2000) : f_Ac_run (f + 1) (nI act) (nI kind) x (nI dep) bodies (nI r) b kinds tr = (f_Ac_run f (nI 3) (g_ABOVE h) x (nI (dep + 1)) bodies (nI (r + 1)) b kinds (nt (nI 50) r tr)).bind fun (v, r1, t1) => some (v ^^^ nI 5, r1, t1) := by
  have h2 : f_Ac_isKind (nI h) = some true := by unfold f_Ac_isKind; simp (disch := omega) only [n_lt, n_le, n_eq, n_cl, n_sub, nI_add, pk_mul, n_subL, n_Lsub, n_neN, n_Nne, n_leN, n_ltN, n_Nlt, n_Nle, le_T, le_F, lt_T, lt_F, eq_T, eq_F, true_or, or_true, false_or, or_false, true_and, and_true, false_and, and_false, and_self, or_self, not_true_eq_false, not_false_eq_true, decide_eq_true_eq, decide_true, decide_false, Bool.false_eq_true, Bool.true_eq_false, eq_self, ↓reduceIte, Option.bind_some, mo_in, lit_0, lit_1, lit_2, lit_3, lit_4, lit_5, lit_6, lit_7, lit_8, lit_9, lit_10, lit_11, lit_12, lit_13, lit_14, lit_15, lit_16, lit_20, lit_22, lit_24, lit_28, lit_30, lit_31, lit_32, lit_39, lit_40, lit_42, lit_48, lit_50, lit_57, lit_60, lit_61, lit_62, lit_63, lit_64, lit_100, lit_120, lit_121, lit_122, lit_128, lit_130, lit_255, lit_256, lit_360, lit_1024, lit_2147483647, m1_pred, Nat.add_sub_cancel, lit_124, lit_38, lit_37, lit_33, lit_126, lit_59, lit_112, lit_108, lit_110, lit_104, lit_47, lit_43, lit_45, lit_41, lit_123, lit_49, lit_58, lit_68]
  have ix := eq_false (n_in (i := h) hh (by omega))
  have hd2 : ((40 : Int32) < nI dep) = False := eq_false (by show ¬ nI 40 < nI dep; rw [n_lt (by omega) (by omega)]; omega)
  have nn := cl_note (nI 50) (r := r) hr tr
  rw [f_Ac_run, f_Ac_run_body, h1, Option.bind_some, if_neg (of_eq_false hd2), h2, Option.bind_some, if_pos rfl, hk, Option.bind_some, if_neg (of_eq_false ix), h3, Option.bind_some, nn, Option.bind_some]
  show (if nI 50 = 1 then _ else _) = _
  rw [if_neg (show ¬ nI 50 = 1 by decide), if_neg (show ¬ nI 50 = 2 by decide), if_neg (show ¬ nI 50 = 10 by decide), if_neg (show ¬ nI 50 = 11 by decide), if_neg (show ¬ nI 50 = 20 by decide), if_neg (show ¬ nI 50 = 30 by decide), if_neg (show ¬ nI 50 = 40 by decide), if_neg (show ¬ nI 50 = 41 by decide), if_pos (show nI 50 = 50 from rfl), n_cl (a := h) (by omega), show nI dep + (1 : Int32) = nI (dep + 1) from nI_1 dep]
  rfl
theorem rc_60 {f act kind h c dep r : Nat} {x bodies b : Int32} {kinds tr : Nat → Int32} (h1 : f_Ac_holderOf (nI act) (nI kind) = some (nI h)) (hh : h < 8) (h3 : f_Ac_bodyOf (nI act) (nI h) = some (nI 60)) (hk : f_Ac_kindOf b bodies kinds = some (nI c)) (hd : dep ≤ 40) (hr : r < 2000) : f_Ac_run (f + 1) (nI act) (nI kind) x (nI dep) bodies (nI r) b kinds tr = (f_Ac_run f (nI 2) (g_ABOVE h) x (nI (dep + 1)) bodies (nI (r + 1)) b kinds (nt (nI 60) r tr)).bind fun (v, r1, t1) => (f_Ac_run f (nI 0) (nI c) (nI 2) (nI (dep + 1)) bodies r1 b kinds t1).bind fun (v2, r2, t2) => some (v - v2, r2, t2) := by
  have h2 : f_Ac_isKind (nI h) = some true := by unfold f_Ac_isKind; simp (disch := omega) only [n_lt, n_le, n_eq, n_cl, n_sub, nI_add, pk_mul, n_subL, n_Lsub, n_neN, n_Nne, n_leN, n_ltN, n_Nlt, n_Nle, le_T, le_F, lt_T, lt_F, eq_T, eq_F, true_or, or_true, false_or, or_false, true_and, and_true, false_and, and_false, and_self, or_self, not_true_eq_false, not_false_eq_true, decide_eq_true_eq, decide_true, decide_false, Bool.false_eq_true, Bool.true_eq_false, eq_self, ↓reduceIte, Option.bind_some, mo_in, lit_0, lit_1, lit_2, lit_3, lit_4, lit_5, lit_6, lit_7, lit_8, lit_9, lit_10, lit_11, lit_12, lit_13, lit_14, lit_15, lit_16, lit_20, lit_22, lit_24, lit_28, lit_30, lit_31, lit_32, lit_39, lit_40, lit_42, lit_48, lit_50, lit_57, lit_60, lit_61, lit_62, lit_63, lit_64, lit_100, lit_120, lit_121, lit_122, lit_128, lit_130, lit_255, lit_256, lit_360, lit_1024, lit_2147483647, m1_pred, Nat.add_sub_cancel, lit_124, lit_38, lit_37, lit_33, lit_126, lit_59, lit_112, lit_108, lit_110, lit_104, lit_47, lit_43, lit_45, lit_41, lit_123, lit_49, lit_58, lit_68]
  have ix := eq_false (n_in (i := h) hh (by omega))
  have hd2 : ((40 : Int32) < nI dep) = False := eq_false (by show ¬ nI 40 < nI dep; rw [n_lt (by omega) (by omega)]; omega)
  have nn := cl_note (nI 60) (r := r) hr tr
  rw [f_Ac_run, f_Ac_run_body, h1, Option.bind_some, if_neg (of_eq_false hd2), h2, Option.bind_some, if_pos rfl, hk, Option.bind_some, if_neg (of_eq_false ix), h3, Option.bind_some, nn, Option.bind_some]
  show (if nI 60 = 1 then _ else _) = _
  rw [if_neg (show ¬ nI 60 = 1 by decide), if_neg (show ¬ nI 60 = 2 by decide), if_neg (show ¬ nI 60 = 10 by decide), if_neg (show ¬ nI 60 = 11 by decide), if_neg (show ¬ nI 60 = 20 by decide), if_neg (show ¬ nI 60 = 30 by decide), if_neg (show ¬ nI 60 = 40 by decide), if_neg (show ¬ nI 60 = 41 by decide), if_neg (show ¬ nI 60 = 50 by decide), if_pos (show nI 60 = 60 from rfl), n_cl (a := h) (by omega), show nI dep + (1 : Int32) = nI (dep + 1) from nI_1 dep]
  rfl
theorem rc_61 {f act kind h c dep r : Nat} {x bodies b : Int32} {kinds tr : Nat → Int32} (h1 : f_Ac_holderOf (nI act) (nI kind) = some (nI h)) (hh : h < 8) (h3 : f_Ac_bodyOf (nI act) (nI h) = some (nI 61)) (hk : f_Ac_kindOf b bodies kinds = some (nI c)) (hd : dep ≤ 40) (hr : r < 2000) : f_Ac_run (f + 1) (nI act) (nI kind) x (nI dep) bodies (nI r) b kinds tr = (f_Ac_run f (nI 3) (g_ABOVE h) x (nI (dep + 1)) bodies (nI (r + 1)) b kinds (nt (nI 61) r tr)).bind fun (v, r1, t1) => some (v + nI 1, r1, t1) := by
  have h2 : f_Ac_isKind (nI h) = some true := by unfold f_Ac_isKind; simp (disch := omega) only [n_lt, n_le, n_eq, n_cl, n_sub, nI_add, pk_mul, n_subL, n_Lsub, n_neN, n_Nne, n_leN, n_ltN, n_Nlt, n_Nle, le_T, le_F, lt_T, lt_F, eq_T, eq_F, true_or, or_true, false_or, or_false, true_and, and_true, false_and, and_false, and_self, or_self, not_true_eq_false, not_false_eq_true, decide_eq_true_eq, decide_true, decide_false, Bool.false_eq_true, Bool.true_eq_false, eq_self, ↓reduceIte, Option.bind_some, mo_in, lit_0, lit_1, lit_2, lit_3, lit_4, lit_5, lit_6, lit_7, lit_8, lit_9, lit_10, lit_11, lit_12, lit_13, lit_14, lit_15, lit_16, lit_20, lit_22, lit_24, lit_28, lit_30, lit_31, lit_32, lit_39, lit_40, lit_42, lit_48, lit_50, lit_57, lit_60, lit_61, lit_62, lit_63, lit_64, lit_100, lit_120, lit_121, lit_122, lit_128, lit_130, lit_255, lit_256, lit_360, lit_1024, lit_2147483647, m1_pred, Nat.add_sub_cancel, lit_124, lit_38, lit_37, lit_33, lit_126, lit_59, lit_112, lit_108, lit_110, lit_104, lit_47, lit_43, lit_45, lit_41, lit_123, lit_49, lit_58, lit_68]
  have ix := eq_false (n_in (i := h) hh (by omega))
  have hd2 : ((40 : Int32) < nI dep) = False := eq_false (by show ¬ nI 40 < nI dep; rw [n_lt (by omega) (by omega)]; omega)
  have nn := cl_note (nI 61) (r := r) hr tr
  rw [f_Ac_run, f_Ac_run_body, h1, Option.bind_some, if_neg (of_eq_false hd2), h2, Option.bind_some, if_pos rfl, hk, Option.bind_some, if_neg (of_eq_false ix), h3, Option.bind_some, nn, Option.bind_some]
  show (if nI 61 = 1 then _ else _) = _
  rw [if_neg (show ¬ nI 61 = 1 by decide), if_neg (show ¬ nI 61 = 2 by decide), if_neg (show ¬ nI 61 = 10 by decide), if_neg (show ¬ nI 61 = 11 by decide), if_neg (show ¬ nI 61 = 20 by decide), if_neg (show ¬ nI 61 = 30 by decide), if_neg (show ¬ nI 61 = 40 by decide), if_neg (show ¬ nI 61 = 41 by decide), if_neg (show ¬ nI 61 = 50 by decide), if_neg (show ¬ nI 61 = 60 by decide), if_pos (show nI 61 = 61 from rfl), n_cl (a := h) (by omega), show nI dep + (1 : Int32) = nI (dep + 1) from nI_1 dep]
  rfl
theorem rc_70 {f act kind h c dep r : Nat} {x bodies b : Int32} {kinds tr : Nat → Int32} (h1 : f_Ac_holderOf (nI act) (nI kind) = some (nI h)) (hh : h < 8) (h3 : f_Ac_bodyOf (nI act) (nI h) = some (nI 70)) (hk : f_Ac_kindOf b bodies kinds = some (nI c)) (hd : dep ≤ 40) (hr : r < 2000) : f_Ac_run (f + 1) (nI act) (nI kind) x (nI dep) bodies (nI r) b kinds tr = (f_Ac_run f (nI 0) (g_ABOVE h) x (nI (dep + 1)) bodies (nI (r + 1)) b kinds (nt (nI 70) r tr)).bind fun (v, r1, t1) => some (v * nI 2, r1, t1) := by
  have h2 : f_Ac_isKind (nI h) = some true := by unfold f_Ac_isKind; simp (disch := omega) only [n_lt, n_le, n_eq, n_cl, n_sub, nI_add, pk_mul, n_subL, n_Lsub, n_neN, n_Nne, n_leN, n_ltN, n_Nlt, n_Nle, le_T, le_F, lt_T, lt_F, eq_T, eq_F, true_or, or_true, false_or, or_false, true_and, and_true, false_and, and_false, and_self, or_self, not_true_eq_false, not_false_eq_true, decide_eq_true_eq, decide_true, decide_false, Bool.false_eq_true, Bool.true_eq_false, eq_self, ↓reduceIte, Option.bind_some, mo_in, lit_0, lit_1, lit_2, lit_3, lit_4, lit_5, lit_6, lit_7, lit_8, lit_9, lit_10, lit_11, lit_12, lit_13, lit_14, lit_15, lit_16, lit_20, lit_22, lit_24, lit_28, lit_30, lit_31, lit_32, lit_39, lit_40, lit_42, lit_48, lit_50, lit_57, lit_60, lit_61, lit_62, lit_63, lit_64, lit_100, lit_120, lit_121, lit_122, lit_128, lit_130, lit_255, lit_256, lit_360, lit_1024, lit_2147483647, m1_pred, Nat.add_sub_cancel, lit_124, lit_38, lit_37, lit_33, lit_126, lit_59, lit_112, lit_108, lit_110, lit_104, lit_47, lit_43, lit_45, lit_41, lit_123, lit_49, lit_58, lit_68]
  have ix := eq_false (n_in (i := h) hh (by omega))
  have hd2 : ((40 : Int32) < nI dep) = False := eq_false (by show ¬ nI 40 < nI dep; rw [n_lt (by omega) (by omega)]; omega)
  have nn := cl_note (nI 70) (r := r) hr tr
  rw [f_Ac_run, f_Ac_run_body, h1, Option.bind_some, if_neg (of_eq_false hd2), h2, Option.bind_some, if_pos rfl, hk, Option.bind_some, if_neg (of_eq_false ix), h3, Option.bind_some, nn, Option.bind_some]
  show (if nI 70 = 1 then _ else _) = _
  rw [if_neg (show ¬ nI 70 = 1 by decide), if_neg (show ¬ nI 70 = 2 by decide), if_neg (show ¬ nI 70 = 10 by decide), if_neg (show ¬ nI 70 = 11 by decide), if_neg (show ¬ nI 70 = 20 by decide), if_neg (show ¬ nI 70 = 30 by decide), if_neg (show ¬ nI 70 = 40 by decide), if_neg (show ¬ nI 70 = 41 by decide), if_neg (show ¬ nI 70 = 50 by decide), if_neg (show ¬ nI 70 = 60 by decide), if_neg (show ¬ nI 70 = 61 by decide), if_pos (show nI 70 = 70 from rfl), n_cl (a := h) (by omega), show nI dep + (1 : Int32) = nI (dep + 1) from nI_1 dep]
  rfl
theorem rc_80 {f act kind h c dep r : Nat} {x bodies b : Int32} {kinds tr : Nat → Int32} (h1 : f_Ac_holderOf (nI act) (nI kind) = some (nI h)) (hh : h < 8) (h3 : f_Ac_bodyOf (nI act) (nI h) = some (nI 80)) (hk : f_Ac_kindOf b bodies kinds = some (nI c)) (hd : dep ≤ 40) (hr : r < 2000) : f_Ac_run (f + 1) (nI act) (nI kind) x (nI dep) bodies (nI r) b kinds tr = (f_Ac_run f (nI 1) (g_ABOVE h) x (nI (dep + 1)) bodies (nI (r + 1)) b kinds (nt (nI 80) r tr)).bind fun (v, r1, t1) => (f_Ac_run f (nI 2) (nI c) (nI 2) (nI (dep + 1)) bodies r1 b kinds t1).bind fun (v2, r2, t2) => some (v + v2, r2, t2) := by
  have h2 : f_Ac_isKind (nI h) = some true := by unfold f_Ac_isKind; simp (disch := omega) only [n_lt, n_le, n_eq, n_cl, n_sub, nI_add, pk_mul, n_subL, n_Lsub, n_neN, n_Nne, n_leN, n_ltN, n_Nlt, n_Nle, le_T, le_F, lt_T, lt_F, eq_T, eq_F, true_or, or_true, false_or, or_false, true_and, and_true, false_and, and_false, and_self, or_self, not_true_eq_false, not_false_eq_true, decide_eq_true_eq, decide_true, decide_false, Bool.false_eq_true, Bool.true_eq_false, eq_self, ↓reduceIte, Option.bind_some, mo_in, lit_0, lit_1, lit_2, lit_3, lit_4, lit_5, lit_6, lit_7, lit_8, lit_9, lit_10, lit_11, lit_12, lit_13, lit_14, lit_15, lit_16, lit_20, lit_22, lit_24, lit_28, lit_30, lit_31, lit_32, lit_39, lit_40, lit_42, lit_48, lit_50, lit_57, lit_60, lit_61, lit_62, lit_63, lit_64, lit_100, lit_120, lit_121, lit_122, lit_128, lit_130, lit_255, lit_256, lit_360, lit_1024, lit_2147483647, m1_pred, Nat.add_sub_cancel, lit_124, lit_38, lit_37, lit_33, lit_126, lit_59, lit_112, lit_108, lit_110, lit_104, lit_47, lit_43, lit_45, lit_41, lit_123, lit_49, lit_58, lit_68]
  have ix := eq_false (n_in (i := h) hh (by omega))
  have hd2 : ((40 : Int32) < nI dep) = False := eq_false (by show ¬ nI 40 < nI dep; rw [n_lt (by omega) (by omega)]; omega)
  have nn := cl_note (nI 80) (r := r) hr tr
  rw [f_Ac_run, f_Ac_run_body, h1, Option.bind_some, if_neg (of_eq_false hd2), h2, Option.bind_some, if_pos rfl, hk, Option.bind_some, if_neg (of_eq_false ix), h3, Option.bind_some, nn, Option.bind_some]
  show (if nI 80 = 1 then _ else _) = _
  rw [if_neg (show ¬ nI 80 = 1 by decide), if_neg (show ¬ nI 80 = 2 by decide), if_neg (show ¬ nI 80 = 10 by decide), if_neg (show ¬ nI 80 = 11 by decide), if_neg (show ¬ nI 80 = 20 by decide), if_neg (show ¬ nI 80 = 30 by decide), if_neg (show ¬ nI 80 = 40 by decide), if_neg (show ¬ nI 80 = 41 by decide), if_neg (show ¬ nI 80 = 50 by decide), if_neg (show ¬ nI 80 = 60 by decide), if_neg (show ¬ nI 80 = 61 by decide), if_neg (show ¬ nI 80 = 70 by decide), if_pos (show nI 80 = 80 from rfl), n_cl (a := h) (by omega), show nI dep + (1 : Int32) = nI (dep + 1) from nI_1 dep]
  rfl
theorem rc_81 {f act kind h c dep r : Nat} {x bodies b : Int32} {kinds tr : Nat → Int32} (h1 : f_Ac_holderOf (nI act) (nI kind) = some (nI h)) (hh : h < 8) (h3 : f_Ac_bodyOf (nI act) (nI h) = some (nI 81)) (hk : f_Ac_kindOf b bodies kinds = some (nI c)) (hd : dep ≤ 40) (hr : r < 2000) : f_Ac_run (f + 1) (nI act) (nI kind) x (nI dep) bodies (nI r) b kinds tr = (f_Ac_run f (nI 0) (g_ABOVE h) x (nI (dep + 1)) bodies (nI (r + 1)) b kinds (nt (nI 81) r tr)).bind fun (v, r1, t1) => some (v - nI 1, r1, t1) := by
  have h2 : f_Ac_isKind (nI h) = some true := by unfold f_Ac_isKind; simp (disch := omega) only [n_lt, n_le, n_eq, n_cl, n_sub, nI_add, pk_mul, n_subL, n_Lsub, n_neN, n_Nne, n_leN, n_ltN, n_Nlt, n_Nle, le_T, le_F, lt_T, lt_F, eq_T, eq_F, true_or, or_true, false_or, or_false, true_and, and_true, false_and, and_false, and_self, or_self, not_true_eq_false, not_false_eq_true, decide_eq_true_eq, decide_true, decide_false, Bool.false_eq_true, Bool.true_eq_false, eq_self, ↓reduceIte, Option.bind_some, mo_in, lit_0, lit_1, lit_2, lit_3, lit_4, lit_5, lit_6, lit_7, lit_8, lit_9, lit_10, lit_11, lit_12, lit_13, lit_14, lit_15, lit_16, lit_20, lit_22, lit_24, lit_28, lit_30, lit_31, lit_32, lit_39, lit_40, lit_42, lit_48, lit_50, lit_57, lit_60, lit_61, lit_62, lit_63, lit_64, lit_100, lit_120, lit_121, lit_122, lit_128, lit_130, lit_255, lit_256, lit_360, lit_1024, lit_2147483647, m1_pred, Nat.add_sub_cancel, lit_124, lit_38, lit_37, lit_33, lit_126, lit_59, lit_112, lit_108, lit_110, lit_104, lit_47, lit_43, lit_45, lit_41, lit_123, lit_49, lit_58, lit_68]
  have ix := eq_false (n_in (i := h) hh (by omega))
  have hd2 : ((40 : Int32) < nI dep) = False := eq_false (by show ¬ nI 40 < nI dep; rw [n_lt (by omega) (by omega)]; omega)
  have nn := cl_note (nI 81) (r := r) hr tr
  rw [f_Ac_run, f_Ac_run_body, h1, Option.bind_some, if_neg (of_eq_false hd2), h2, Option.bind_some, if_pos rfl, hk, Option.bind_some, if_neg (of_eq_false ix), h3, Option.bind_some, nn, Option.bind_some]
  show (if nI 81 = 1 then _ else _) = _
  rw [if_neg (show ¬ nI 81 = 1 by decide), if_neg (show ¬ nI 81 = 2 by decide), if_neg (show ¬ nI 81 = 10 by decide), if_neg (show ¬ nI 81 = 11 by decide), if_neg (show ¬ nI 81 = 20 by decide), if_neg (show ¬ nI 81 = 30 by decide), if_neg (show ¬ nI 81 = 40 by decide), if_neg (show ¬ nI 81 = 41 by decide), if_neg (show ¬ nI 81 = 50 by decide), if_neg (show ¬ nI 81 = 60 by decide), if_neg (show ¬ nI 81 = 61 by decide), if_neg (show ¬ nI 81 = 70 by decide), if_neg (show ¬ nI 81 = 80 by decide), if_pos (show nI 81 = 81 from rfl), n_cl (a := h) (by omega), show nI dep + (1 : Int32) = nI (dep + 1) from nI_1 dep]
  rfl
theorem as_1 {bodies b : Int32} {kinds : Nat → Int32} {c : Nat} (hk : f_Ac_kindOf b bodies kinds = some (nI c))  {fu dep : Nat} (hf : 1 ≤ fu) (hd : dep + 1 ≤ 40) (x : Int32) : alike 1 (cr fu 0 0 x dep bodies b kinds) (fun r td => f_Mo_plainLights b x r td) := by
  intro r tr td hr ha
  obtain ⟨f, rfl⟩ : ∃ f, fu = f + 1 := ⟨fu - 1, by omega⟩
  refine ⟨x + b, (r + 1), (nt (nI 1) r tr), (nt (nI 1) r td), ?_, ?_, (agr_nt (nI 1) ha), by omega⟩
  · unfold cr
    rw [rc_1 ho_0_0 (by omega) bo_0_0 hk (by omega) (by omega)]
  · simp (disch := omega) only [n_lt, n_le, n_eq, n_cl, n_sub, nI_add, pk_mul, n_subL, n_Lsub, n_neN, n_Nne, n_leN, n_ltN, n_Nlt, n_Nle, le_T, le_F, lt_T, lt_F, eq_T, eq_F, true_or, or_true, false_or, or_false, true_and, and_true, false_and, and_false, and_self, or_self, not_true_eq_false, not_false_eq_true, decide_eq_true_eq, decide_true, decide_false, Bool.false_eq_true, Bool.true_eq_false, eq_self, ↓reduceIte, Option.bind_some, mo_in, lit_0, lit_1, lit_2, lit_3, lit_4, lit_5, lit_6, lit_7, lit_8, lit_9, lit_10, lit_11, lit_12, lit_13, lit_14, lit_15, lit_16, lit_20, lit_22, lit_24, lit_28, lit_30, lit_31, lit_32, lit_39, lit_40, lit_42, lit_48, lit_50, lit_57, lit_60, lit_61, lit_62, lit_63, lit_64, lit_100, lit_120, lit_121, lit_122, lit_128, lit_130, lit_255, lit_256, lit_360, lit_1024, lit_2147483647, m1_pred, Nat.add_sub_cancel, lit_124, lit_38, lit_37, lit_33, lit_126, lit_59, lit_112, lit_108, lit_110, lit_104, lit_47, lit_43, lit_45, lit_41, lit_123, lit_49, lit_58, lit_68, lit_70, lit_80, lit_81, f_Mo_plainLights, mo_ran]
theorem as_70 {bodies b : Int32} {kinds : Nat → Int32} {c : Nat} (hk : f_Ac_kindOf b bodies kinds = some (nI c))  {fu dep : Nat} (hf : 2 ≤ fu) (hd : dep + 2 ≤ 40) (x : Int32) : alike 2 (cr fu 0 6 x dep bodies b kinds) (fun r td => f_Mo_toldLights b x r td) := by
  intro r tr td hr ha
  obtain ⟨f, rfl⟩ : ∃ f, fu = f + 1 := ⟨fu - 1, by omega⟩
  obtain ⟨v0, r0, tr0, td0, p0, q0, a0, k0⟩ := as_1 hk (fu := f) (dep := dep + 1) (by omega) (by omega) x (r + 1) (nt (nI 70) r tr) (nt (nI 70) r td) (by omega) (agr_nt (nI 70) ha)
  unfold cr at p0
  refine ⟨v0 * nI 2, r0, tr0, td0, ?_, ?_, a0, by omega⟩
  · unfold cr
    rw [rc_70 ho_0_6 (by omega) bo_0_6 hk (by omega) (by omega), ab_6, p0]
    rfl
  · simp (disch := omega) only [n_lt, n_le, n_eq, n_cl, n_sub, nI_add, pk_mul, n_subL, n_Lsub, n_neN, n_Nne, n_leN, n_ltN, n_Nlt, n_Nle, le_T, le_F, lt_T, lt_F, eq_T, eq_F, true_or, or_true, false_or, or_false, true_and, and_true, false_and, and_false, and_self, or_self, not_true_eq_false, not_false_eq_true, decide_eq_true_eq, decide_true, decide_false, Bool.false_eq_true, Bool.true_eq_false, eq_self, ↓reduceIte, Option.bind_some, mo_in, lit_0, lit_1, lit_2, lit_3, lit_4, lit_5, lit_6, lit_7, lit_8, lit_9, lit_10, lit_11, lit_12, lit_13, lit_14, lit_15, lit_16, lit_20, lit_22, lit_24, lit_28, lit_30, lit_31, lit_32, lit_39, lit_40, lit_42, lit_48, lit_50, lit_57, lit_60, lit_61, lit_62, lit_63, lit_64, lit_100, lit_120, lit_121, lit_122, lit_128, lit_130, lit_255, lit_256, lit_360, lit_1024, lit_2147483647, m1_pred, Nat.add_sub_cancel, lit_124, lit_38, lit_37, lit_33, lit_126, lit_59, lit_112, lit_108, lit_110, lit_104, lit_47, lit_43, lit_45, lit_41, lit_123, lit_49, lit_58, lit_68, lit_70, lit_80, lit_81, f_Mo_toldLights, mo_ran, q0]
theorem af_0 {bodies b : Int32} {kinds kind : Nat → Int32} {c : Nat} (hk : f_Ac_kindOf b bodies kinds = some (nI c)) (hb : ¬ (b < 0 ∨ 50 ≤ Int32.toNatClampNeg b)) (hm : kind (Int32.toNatClampNeg b) = nI c) (hc : c < 8) {fu dep : Nat} (hf : 3 ≤ fu) (hd : dep + 3 ≤ 40) (x : Int32) : alike 3 (cr fu 0 c x dep bodies b kinds) (fun r td => f_Mo_lighting b x r kind td) := by
  match c, hc with
  | 0, _ =>
    have hb0 : (b < nI 0) = False := eq_false (fun z => hb (Or.inl z))
    intro r tr td hr ha
    obtain ⟨f, rfl⟩ : ∃ f, fu = f + 1 := ⟨fu - 1, by omega⟩
    refine ⟨x + b, (r + 1), (nt (nI 1) r tr), (nt (nI 1) r td), ?_, ?_, (agr_nt (nI 1) ha), by omega⟩
    · unfold cr
      rw [rc_1 ho_0_0 (by omega) bo_0_0 hk (by omega) (by omega)]
    · simp (disch := omega) only [n_lt, n_le, n_eq, n_cl, n_sub, nI_add, pk_mul, n_subL, n_Lsub, n_neN, n_Nne, n_leN, n_ltN, n_Nlt, n_Nle, le_T, le_F, lt_T, lt_F, eq_T, eq_F, true_or, or_true, false_or, or_false, true_and, and_true, false_and, and_false, and_self, or_self, not_true_eq_false, not_false_eq_true, decide_eq_true_eq, decide_true, decide_false, Bool.false_eq_true, Bool.true_eq_false, eq_self, ↓reduceIte, Option.bind_some, mo_in, lit_0, lit_1, lit_2, lit_3, lit_4, lit_5, lit_6, lit_7, lit_8, lit_9, lit_10, lit_11, lit_12, lit_13, lit_14, lit_15, lit_16, lit_20, lit_22, lit_24, lit_28, lit_30, lit_31, lit_32, lit_39, lit_40, lit_42, lit_48, lit_50, lit_57, lit_60, lit_61, lit_62, lit_63, lit_64, lit_100, lit_120, lit_121, lit_122, lit_128, lit_130, lit_255, lit_256, lit_360, lit_1024, lit_2147483647, m1_pred, Nat.add_sub_cancel, lit_124, lit_38, lit_37, lit_33, lit_126, lit_59, lit_112, lit_108, lit_110, lit_104, lit_47, lit_43, lit_45, lit_41, lit_123, lit_49, lit_58, lit_68, lit_70, lit_80, lit_81, f_Mo_lighting, f_Mo_plainLights, mo_ran, hm, hb0, un_0_1]
  | 1, _ =>
    have hb0 : (b < nI 0) = False := eq_false (fun z => hb (Or.inl z))
    intro r tr td hr ha
    obtain ⟨f, rfl⟩ : ∃ f, fu = f + 1 := ⟨fu - 1, by omega⟩
    obtain ⟨v0, r0, tr0, td0, p0, q0, a0, k0⟩ := as_1 hk (fu := f) (dep := dep + 1) (by omega) (by omega) x (r + 1) (nt (nI 20) r tr) (nt (nI 20) r td) (by omega) (agr_nt (nI 20) ha)
    unfold cr at p0
    refine ⟨v0 + nI 3, r0, tr0, td0, ?_, ?_, a0, by omega⟩
    · unfold cr
      rw [rc_20 ho_0_1 (by omega) bo_0_1 hk (by omega) (by omega), ab_1, p0]
      rfl
    · simp (disch := omega) only [n_lt, n_le, n_eq, n_cl, n_sub, nI_add, pk_mul, n_subL, n_Lsub, n_neN, n_Nne, n_leN, n_ltN, n_Nlt, n_Nle, le_T, le_F, lt_T, lt_F, eq_T, eq_F, true_or, or_true, false_or, or_false, true_and, and_true, false_and, and_false, and_self, or_self, not_true_eq_false, not_false_eq_true, decide_eq_true_eq, decide_true, decide_false, Bool.false_eq_true, Bool.true_eq_false, eq_self, ↓reduceIte, Option.bind_some, mo_in, lit_0, lit_1, lit_2, lit_3, lit_4, lit_5, lit_6, lit_7, lit_8, lit_9, lit_10, lit_11, lit_12, lit_13, lit_14, lit_15, lit_16, lit_20, lit_22, lit_24, lit_28, lit_30, lit_31, lit_32, lit_39, lit_40, lit_42, lit_48, lit_50, lit_57, lit_60, lit_61, lit_62, lit_63, lit_64, lit_100, lit_120, lit_121, lit_122, lit_128, lit_130, lit_255, lit_256, lit_360, lit_1024, lit_2147483647, m1_pred, Nat.add_sub_cancel, lit_124, lit_38, lit_37, lit_33, lit_126, lit_59, lit_112, lit_108, lit_110, lit_104, lit_47, lit_43, lit_45, lit_41, lit_123, lit_49, lit_58, lit_68, lit_70, lit_80, lit_81, f_Mo_lighting, mo_ran, hm, hb0, q0, un_1_1]
  | 2, _ =>
    have hb0 : (b < nI 0) = False := eq_false (fun z => hb (Or.inl z))
    intro r tr td hr ha
    obtain ⟨f, rfl⟩ : ∃ f, fu = f + 1 := ⟨fu - 1, by omega⟩
    refine ⟨x + b, (r + 1), (nt (nI 1) r tr), (nt (nI 1) r td), ?_, ?_, (agr_nt (nI 1) ha), by omega⟩
    · unfold cr
      rw [rc_1 ho_0_2 (by omega) bo_0_0 hk (by omega) (by omega)]
    · simp (disch := omega) only [n_lt, n_le, n_eq, n_cl, n_sub, nI_add, pk_mul, n_subL, n_Lsub, n_neN, n_Nne, n_leN, n_ltN, n_Nlt, n_Nle, le_T, le_F, lt_T, lt_F, eq_T, eq_F, true_or, or_true, false_or, or_false, true_and, and_true, false_and, and_false, and_self, or_self, not_true_eq_false, not_false_eq_true, decide_eq_true_eq, decide_true, decide_false, Bool.false_eq_true, Bool.true_eq_false, eq_self, ↓reduceIte, Option.bind_some, mo_in, lit_0, lit_1, lit_2, lit_3, lit_4, lit_5, lit_6, lit_7, lit_8, lit_9, lit_10, lit_11, lit_12, lit_13, lit_14, lit_15, lit_16, lit_20, lit_22, lit_24, lit_28, lit_30, lit_31, lit_32, lit_39, lit_40, lit_42, lit_48, lit_50, lit_57, lit_60, lit_61, lit_62, lit_63, lit_64, lit_100, lit_120, lit_121, lit_122, lit_128, lit_130, lit_255, lit_256, lit_360, lit_1024, lit_2147483647, m1_pred, Nat.add_sub_cancel, lit_124, lit_38, lit_37, lit_33, lit_126, lit_59, lit_112, lit_108, lit_110, lit_104, lit_47, lit_43, lit_45, lit_41, lit_123, lit_49, lit_58, lit_68, lit_70, lit_80, lit_81, f_Mo_lighting, f_Mo_plainLights, mo_ran, hm, hb0, un_2_1]
  | 3, _ =>
    have hb0 : (b < nI 0) = False := eq_false (fun z => hb (Or.inl z))
    intro r tr td hr ha
    obtain ⟨f, rfl⟩ : ∃ f, fu = f + 1 := ⟨fu - 1, by omega⟩
    refine ⟨x + b, (r + 1), (nt (nI 1) r tr), (nt (nI 1) r td), ?_, ?_, (agr_nt (nI 1) ha), by omega⟩
    · unfold cr
      rw [rc_1 ho_0_3 (by omega) bo_0_0 hk (by omega) (by omega)]
    · simp (disch := omega) only [n_lt, n_le, n_eq, n_cl, n_sub, nI_add, pk_mul, n_subL, n_Lsub, n_neN, n_Nne, n_leN, n_ltN, n_Nlt, n_Nle, le_T, le_F, lt_T, lt_F, eq_T, eq_F, true_or, or_true, false_or, or_false, true_and, and_true, false_and, and_false, and_self, or_self, not_true_eq_false, not_false_eq_true, decide_eq_true_eq, decide_true, decide_false, Bool.false_eq_true, Bool.true_eq_false, eq_self, ↓reduceIte, Option.bind_some, mo_in, lit_0, lit_1, lit_2, lit_3, lit_4, lit_5, lit_6, lit_7, lit_8, lit_9, lit_10, lit_11, lit_12, lit_13, lit_14, lit_15, lit_16, lit_20, lit_22, lit_24, lit_28, lit_30, lit_31, lit_32, lit_39, lit_40, lit_42, lit_48, lit_50, lit_57, lit_60, lit_61, lit_62, lit_63, lit_64, lit_100, lit_120, lit_121, lit_122, lit_128, lit_130, lit_255, lit_256, lit_360, lit_1024, lit_2147483647, m1_pred, Nat.add_sub_cancel, lit_124, lit_38, lit_37, lit_33, lit_126, lit_59, lit_112, lit_108, lit_110, lit_104, lit_47, lit_43, lit_45, lit_41, lit_123, lit_49, lit_58, lit_68, lit_70, lit_80, lit_81, f_Mo_lighting, f_Mo_plainLights, mo_ran, hm, hb0, un_3_1]
  | 4, _ =>
    have hb0 : (b < nI 0) = False := eq_false (fun z => hb (Or.inl z))
    intro r tr td hr ha
    obtain ⟨f, rfl⟩ : ∃ f, fu = f + 1 := ⟨fu - 1, by omega⟩
    obtain ⟨v0, r0, tr0, td0, p0, q0, a0, k0⟩ := as_1 hk (fu := f) (dep := dep + 1) (by omega) (by omega) x (r + 1) (nt (nI 20) r tr) (nt (nI 20) r td) (by omega) (agr_nt (nI 20) ha)
    unfold cr at p0
    refine ⟨v0 + nI 3, r0, tr0, td0, ?_, ?_, a0, by omega⟩
    · unfold cr
      rw [rc_20 ho_0_4 (by omega) bo_0_1 hk (by omega) (by omega), ab_1, p0]
      rfl
    · simp (disch := omega) only [n_lt, n_le, n_eq, n_cl, n_sub, nI_add, pk_mul, n_subL, n_Lsub, n_neN, n_Nne, n_leN, n_ltN, n_Nlt, n_Nle, le_T, le_F, lt_T, lt_F, eq_T, eq_F, true_or, or_true, false_or, or_false, true_and, and_true, false_and, and_false, and_self, or_self, not_true_eq_false, not_false_eq_true, decide_eq_true_eq, decide_true, decide_false, Bool.false_eq_true, Bool.true_eq_false, eq_self, ↓reduceIte, Option.bind_some, mo_in, lit_0, lit_1, lit_2, lit_3, lit_4, lit_5, lit_6, lit_7, lit_8, lit_9, lit_10, lit_11, lit_12, lit_13, lit_14, lit_15, lit_16, lit_20, lit_22, lit_24, lit_28, lit_30, lit_31, lit_32, lit_39, lit_40, lit_42, lit_48, lit_50, lit_57, lit_60, lit_61, lit_62, lit_63, lit_64, lit_100, lit_120, lit_121, lit_122, lit_128, lit_130, lit_255, lit_256, lit_360, lit_1024, lit_2147483647, m1_pred, Nat.add_sub_cancel, lit_124, lit_38, lit_37, lit_33, lit_126, lit_59, lit_112, lit_108, lit_110, lit_104, lit_47, lit_43, lit_45, lit_41, lit_123, lit_49, lit_58, lit_68, lit_70, lit_80, lit_81, f_Mo_lighting, mo_ran, hm, hb0, q0, un_4_1]
  | 5, _ =>
    have hb0 : (b < nI 0) = False := eq_false (fun z => hb (Or.inl z))
    intro r tr td hr ha
    obtain ⟨f, rfl⟩ : ∃ f, fu = f + 1 := ⟨fu - 1, by omega⟩
    obtain ⟨v0, r0, tr0, td0, p0, q0, a0, k0⟩ := as_1 hk (fu := f) (dep := dep + 1) (by omega) (by omega) x (r + 1) (nt (nI 20) r tr) (nt (nI 20) r td) (by omega) (agr_nt (nI 20) ha)
    unfold cr at p0
    refine ⟨v0 + nI 3, r0, tr0, td0, ?_, ?_, a0, by omega⟩
    · unfold cr
      rw [rc_20 ho_0_5 (by omega) bo_0_1 hk (by omega) (by omega), ab_1, p0]
      rfl
    · simp (disch := omega) only [n_lt, n_le, n_eq, n_cl, n_sub, nI_add, pk_mul, n_subL, n_Lsub, n_neN, n_Nne, n_leN, n_ltN, n_Nlt, n_Nle, le_T, le_F, lt_T, lt_F, eq_T, eq_F, true_or, or_true, false_or, or_false, true_and, and_true, false_and, and_false, and_self, or_self, not_true_eq_false, not_false_eq_true, decide_eq_true_eq, decide_true, decide_false, Bool.false_eq_true, Bool.true_eq_false, eq_self, ↓reduceIte, Option.bind_some, mo_in, lit_0, lit_1, lit_2, lit_3, lit_4, lit_5, lit_6, lit_7, lit_8, lit_9, lit_10, lit_11, lit_12, lit_13, lit_14, lit_15, lit_16, lit_20, lit_22, lit_24, lit_28, lit_30, lit_31, lit_32, lit_39, lit_40, lit_42, lit_48, lit_50, lit_57, lit_60, lit_61, lit_62, lit_63, lit_64, lit_100, lit_120, lit_121, lit_122, lit_128, lit_130, lit_255, lit_256, lit_360, lit_1024, lit_2147483647, m1_pred, Nat.add_sub_cancel, lit_124, lit_38, lit_37, lit_33, lit_126, lit_59, lit_112, lit_108, lit_110, lit_104, lit_47, lit_43, lit_45, lit_41, lit_123, lit_49, lit_58, lit_68, lit_70, lit_80, lit_81, f_Mo_lighting, mo_ran, hm, hb0, q0, un_5_1]
  | 6, _ =>
    have hb0 : (b < nI 0) = False := eq_false (fun z => hb (Or.inl z))
    intro r tr td hr ha
    obtain ⟨f, rfl⟩ : ∃ f, fu = f + 1 := ⟨fu - 1, by omega⟩
    obtain ⟨v0, r0, tr0, td0, p0, q0, a0, k0⟩ := as_1 hk (fu := f) (dep := dep + 1) (by omega) (by omega) x (r + 1) (nt (nI 70) r tr) (nt (nI 70) r td) (by omega) (agr_nt (nI 70) ha)
    unfold cr at p0
    refine ⟨v0 * nI 2, r0, tr0, td0, ?_, ?_, a0, by omega⟩
    · unfold cr
      rw [rc_70 ho_0_6 (by omega) bo_0_6 hk (by omega) (by omega), ab_6, p0]
      rfl
    · simp (disch := omega) only [n_lt, n_le, n_eq, n_cl, n_sub, nI_add, pk_mul, n_subL, n_Lsub, n_neN, n_Nne, n_leN, n_ltN, n_Nlt, n_Nle, le_T, le_F, lt_T, lt_F, eq_T, eq_F, true_or, or_true, false_or, or_false, true_and, and_true, false_and, and_false, and_self, or_self, not_true_eq_false, not_false_eq_true, decide_eq_true_eq, decide_true, decide_false, Bool.false_eq_true, Bool.true_eq_false, eq_self, ↓reduceIte, Option.bind_some, mo_in, lit_0, lit_1, lit_2, lit_3, lit_4, lit_5, lit_6, lit_7, lit_8, lit_9, lit_10, lit_11, lit_12, lit_13, lit_14, lit_15, lit_16, lit_20, lit_22, lit_24, lit_28, lit_30, lit_31, lit_32, lit_39, lit_40, lit_42, lit_48, lit_50, lit_57, lit_60, lit_61, lit_62, lit_63, lit_64, lit_100, lit_120, lit_121, lit_122, lit_128, lit_130, lit_255, lit_256, lit_360, lit_1024, lit_2147483647, m1_pred, Nat.add_sub_cancel, lit_124, lit_38, lit_37, lit_33, lit_126, lit_59, lit_112, lit_108, lit_110, lit_104, lit_47, lit_43, lit_45, lit_41, lit_123, lit_49, lit_58, lit_68, lit_70, lit_80, lit_81, f_Mo_lighting, f_Mo_toldLights, mo_ran, hm, hb0, q0, un_6_1]
  | 7, _ =>
    have hb0 : (b < nI 0) = False := eq_false (fun z => hb (Or.inl z))
    intro r tr td hr ha
    obtain ⟨f, rfl⟩ : ∃ f, fu = f + 1 := ⟨fu - 1, by omega⟩
    obtain ⟨v0, r0, tr0, td0, p0, q0, a0, k0⟩ := as_70 hk (fu := f) (dep := dep + 1) (by omega) (by omega) x (r + 1) (nt (nI 81) r tr) (nt (nI 81) r td) (by omega) (agr_nt (nI 81) ha)
    unfold cr at p0
    refine ⟨v0 - nI 1, r0, tr0, td0, ?_, ?_, a0, by omega⟩
    · unfold cr
      rw [rc_81 ho_0_7 (by omega) bo_0_7 hk (by omega) (by omega), ab_7, p0]
      rfl
    · simp (disch := omega) only [n_lt, n_le, n_eq, n_cl, n_sub, nI_add, pk_mul, n_subL, n_Lsub, n_neN, n_Nne, n_leN, n_ltN, n_Nlt, n_Nle, le_T, le_F, lt_T, lt_F, eq_T, eq_F, true_or, or_true, false_or, or_false, true_and, and_true, false_and, and_false, and_self, or_self, not_true_eq_false, not_false_eq_true, decide_eq_true_eq, decide_true, decide_false, Bool.false_eq_true, Bool.true_eq_false, eq_self, ↓reduceIte, Option.bind_some, mo_in, lit_0, lit_1, lit_2, lit_3, lit_4, lit_5, lit_6, lit_7, lit_8, lit_9, lit_10, lit_11, lit_12, lit_13, lit_14, lit_15, lit_16, lit_20, lit_22, lit_24, lit_28, lit_30, lit_31, lit_32, lit_39, lit_40, lit_42, lit_48, lit_50, lit_57, lit_60, lit_61, lit_62, lit_63, lit_64, lit_100, lit_120, lit_121, lit_122, lit_128, lit_130, lit_255, lit_256, lit_360, lit_1024, lit_2147483647, m1_pred, Nat.add_sub_cancel, lit_124, lit_38, lit_37, lit_33, lit_126, lit_59, lit_112, lit_108, lit_110, lit_104, lit_47, lit_43, lit_45, lit_41, lit_123, lit_49, lit_58, lit_68, lit_70, lit_80, lit_81, f_Mo_lighting, mo_ran, hm, hb0, q0, un_7_1]
  | n + 8, h => exact absurd h (by omega)
theorem as_10_0 {bodies b : Int32} {kinds kind : Nat → Int32} {c : Nat} (hk : f_Ac_kindOf b bodies kinds = some (nI c)) (hb : ¬ (b < 0 ∨ 50 ≤ Int32.toNatClampNeg b)) (hm : kind (Int32.toNatClampNeg b) = nI c) (hc : c < 8) {fu dep : Nat} (hf : 4 ≤ fu) (hd : dep + 4 ≤ 40) (x : Int32) : alike 4 (cr fu 1 0 x dep bodies b kinds) (fun r td => f_Mo_plainShows b x r td kind) := by
  intro r tr td hr ha
  obtain ⟨f, rfl⟩ : ∃ f, fu = f + 1 := ⟨fu - 1, by omega⟩
  obtain ⟨v0, r0, tr0, td0, p0, q0, a0, k0⟩ := af_0 hk hb hm hc (fu := f) (dep := dep + 1) (by omega) (by omega) x (r + 1) (nt (nI 10) r tr) (nt (nI 10) r td) (by omega) (agr_nt (nI 10) ha)
  unfold cr at p0
  refine ⟨v0 * nI 2, r0, tr0, td0, ?_, ?_, a0, by omega⟩
  · unfold cr
    rw [rc_10 ho_1_0 (by omega) bo_1_0 hk (by omega) (by omega), p0]
    rfl
  · simp (disch := omega) only [n_lt, n_le, n_eq, n_cl, n_sub, nI_add, pk_mul, n_subL, n_Lsub, n_neN, n_Nne, n_leN, n_ltN, n_Nlt, n_Nle, le_T, le_F, lt_T, lt_F, eq_T, eq_F, true_or, or_true, false_or, or_false, true_and, and_true, false_and, and_false, and_self, or_self, not_true_eq_false, not_false_eq_true, decide_eq_true_eq, decide_true, decide_false, Bool.false_eq_true, Bool.true_eq_false, eq_self, ↓reduceIte, Option.bind_some, mo_in, lit_0, lit_1, lit_2, lit_3, lit_4, lit_5, lit_6, lit_7, lit_8, lit_9, lit_10, lit_11, lit_12, lit_13, lit_14, lit_15, lit_16, lit_20, lit_22, lit_24, lit_28, lit_30, lit_31, lit_32, lit_39, lit_40, lit_42, lit_48, lit_50, lit_57, lit_60, lit_61, lit_62, lit_63, lit_64, lit_100, lit_120, lit_121, lit_122, lit_128, lit_130, lit_255, lit_256, lit_360, lit_1024, lit_2147483647, m1_pred, Nat.add_sub_cancel, lit_124, lit_38, lit_37, lit_33, lit_126, lit_59, lit_112, lit_108, lit_110, lit_104, lit_47, lit_43, lit_45, lit_41, lit_123, lit_49, lit_58, lit_68, lit_70, lit_80, lit_81, f_Mo_plainShows, mo_ran, q0]
theorem as_10_1 {bodies b : Int32} {kinds kind : Nat → Int32} {c : Nat} (hk : f_Ac_kindOf b bodies kinds = some (nI c)) (hb : ¬ (b < 0 ∨ 50 ≤ Int32.toNatClampNeg b)) (hm : kind (Int32.toNatClampNeg b) = nI c) (hc : c < 8) {fu dep : Nat} (hf : 4 ≤ fu) (hd : dep + 4 ≤ 40) (x : Int32) : alike 4 (cr fu 1 1 x dep bodies b kinds) (fun r td => f_Mo_plainShows b x r td kind) := by
  intro r tr td hr ha
  obtain ⟨f, rfl⟩ : ∃ f, fu = f + 1 := ⟨fu - 1, by omega⟩
  obtain ⟨v0, r0, tr0, td0, p0, q0, a0, k0⟩ := af_0 hk hb hm hc (fu := f) (dep := dep + 1) (by omega) (by omega) x (r + 1) (nt (nI 10) r tr) (nt (nI 10) r td) (by omega) (agr_nt (nI 10) ha)
  unfold cr at p0
  refine ⟨v0 * nI 2, r0, tr0, td0, ?_, ?_, a0, by omega⟩
  · unfold cr
    rw [rc_10 ho_1_1 (by omega) bo_1_0 hk (by omega) (by omega), p0]
    rfl
  · simp (disch := omega) only [n_lt, n_le, n_eq, n_cl, n_sub, nI_add, pk_mul, n_subL, n_Lsub, n_neN, n_Nne, n_leN, n_ltN, n_Nlt, n_Nle, le_T, le_F, lt_T, lt_F, eq_T, eq_F, true_or, or_true, false_or, or_false, true_and, and_true, false_and, and_false, and_self, or_self, not_true_eq_false, not_false_eq_true, decide_eq_true_eq, decide_true, decide_false, Bool.false_eq_true, Bool.true_eq_false, eq_self, ↓reduceIte, Option.bind_some, mo_in, lit_0, lit_1, lit_2, lit_3, lit_4, lit_5, lit_6, lit_7, lit_8, lit_9, lit_10, lit_11, lit_12, lit_13, lit_14, lit_15, lit_16, lit_20, lit_22, lit_24, lit_28, lit_30, lit_31, lit_32, lit_39, lit_40, lit_42, lit_48, lit_50, lit_57, lit_60, lit_61, lit_62, lit_63, lit_64, lit_100, lit_120, lit_121, lit_122, lit_128, lit_130, lit_255, lit_256, lit_360, lit_1024, lit_2147483647, m1_pred, Nat.add_sub_cancel, lit_124, lit_38, lit_37, lit_33, lit_126, lit_59, lit_112, lit_108, lit_110, lit_104, lit_47, lit_43, lit_45, lit_41, lit_123, lit_49, lit_58, lit_68, lit_70, lit_80, lit_81, f_Mo_plainShows, mo_ran, q0]
theorem as_10_4 {bodies b : Int32} {kinds kind : Nat → Int32} {c : Nat} (hk : f_Ac_kindOf b bodies kinds = some (nI c)) (hb : ¬ (b < 0 ∨ 50 ≤ Int32.toNatClampNeg b)) (hm : kind (Int32.toNatClampNeg b) = nI c) (hc : c < 8) {fu dep : Nat} (hf : 4 ≤ fu) (hd : dep + 4 ≤ 40) (x : Int32) : alike 4 (cr fu 1 4 x dep bodies b kinds) (fun r td => f_Mo_plainShows b x r td kind) := by
  intro r tr td hr ha
  obtain ⟨f, rfl⟩ : ∃ f, fu = f + 1 := ⟨fu - 1, by omega⟩
  obtain ⟨v0, r0, tr0, td0, p0, q0, a0, k0⟩ := af_0 hk hb hm hc (fu := f) (dep := dep + 1) (by omega) (by omega) x (r + 1) (nt (nI 10) r tr) (nt (nI 10) r td) (by omega) (agr_nt (nI 10) ha)
  unfold cr at p0
  refine ⟨v0 * nI 2, r0, tr0, td0, ?_, ?_, a0, by omega⟩
  · unfold cr
    rw [rc_10 ho_1_4 (by omega) bo_1_0 hk (by omega) (by omega), p0]
    rfl
  · simp (disch := omega) only [n_lt, n_le, n_eq, n_cl, n_sub, nI_add, pk_mul, n_subL, n_Lsub, n_neN, n_Nne, n_leN, n_ltN, n_Nlt, n_Nle, le_T, le_F, lt_T, lt_F, eq_T, eq_F, true_or, or_true, false_or, or_false, true_and, and_true, false_and, and_false, and_self, or_self, not_true_eq_false, not_false_eq_true, decide_eq_true_eq, decide_true, decide_false, Bool.false_eq_true, Bool.true_eq_false, eq_self, ↓reduceIte, Option.bind_some, mo_in, lit_0, lit_1, lit_2, lit_3, lit_4, lit_5, lit_6, lit_7, lit_8, lit_9, lit_10, lit_11, lit_12, lit_13, lit_14, lit_15, lit_16, lit_20, lit_22, lit_24, lit_28, lit_30, lit_31, lit_32, lit_39, lit_40, lit_42, lit_48, lit_50, lit_57, lit_60, lit_61, lit_62, lit_63, lit_64, lit_100, lit_120, lit_121, lit_122, lit_128, lit_130, lit_255, lit_256, lit_360, lit_1024, lit_2147483647, m1_pred, Nat.add_sub_cancel, lit_124, lit_38, lit_37, lit_33, lit_126, lit_59, lit_112, lit_108, lit_110, lit_104, lit_47, lit_43, lit_45, lit_41, lit_123, lit_49, lit_58, lit_68, lit_70, lit_80, lit_81, f_Mo_plainShows, mo_ran, q0]
theorem as_10_5 {bodies b : Int32} {kinds kind : Nat → Int32} {c : Nat} (hk : f_Ac_kindOf b bodies kinds = some (nI c)) (hb : ¬ (b < 0 ∨ 50 ≤ Int32.toNatClampNeg b)) (hm : kind (Int32.toNatClampNeg b) = nI c) (hc : c < 8) {fu dep : Nat} (hf : 4 ≤ fu) (hd : dep + 4 ≤ 40) (x : Int32) : alike 4 (cr fu 1 5 x dep bodies b kinds) (fun r td => f_Mo_plainShows b x r td kind) := by
  intro r tr td hr ha
  obtain ⟨f, rfl⟩ : ∃ f, fu = f + 1 := ⟨fu - 1, by omega⟩
  obtain ⟨v0, r0, tr0, td0, p0, q0, a0, k0⟩ := af_0 hk hb hm hc (fu := f) (dep := dep + 1) (by omega) (by omega) x (r + 1) (nt (nI 10) r tr) (nt (nI 10) r td) (by omega) (agr_nt (nI 10) ha)
  unfold cr at p0
  refine ⟨v0 * nI 2, r0, tr0, td0, ?_, ?_, a0, by omega⟩
  · unfold cr
    rw [rc_10 ho_1_5 (by omega) bo_1_0 hk (by omega) (by omega), p0]
    rfl
  · simp (disch := omega) only [n_lt, n_le, n_eq, n_cl, n_sub, nI_add, pk_mul, n_subL, n_Lsub, n_neN, n_Nne, n_leN, n_ltN, n_Nlt, n_Nle, le_T, le_F, lt_T, lt_F, eq_T, eq_F, true_or, or_true, false_or, or_false, true_and, and_true, false_and, and_false, and_self, or_self, not_true_eq_false, not_false_eq_true, decide_eq_true_eq, decide_true, decide_false, Bool.false_eq_true, Bool.true_eq_false, eq_self, ↓reduceIte, Option.bind_some, mo_in, lit_0, lit_1, lit_2, lit_3, lit_4, lit_5, lit_6, lit_7, lit_8, lit_9, lit_10, lit_11, lit_12, lit_13, lit_14, lit_15, lit_16, lit_20, lit_22, lit_24, lit_28, lit_30, lit_31, lit_32, lit_39, lit_40, lit_42, lit_48, lit_50, lit_57, lit_60, lit_61, lit_62, lit_63, lit_64, lit_100, lit_120, lit_121, lit_122, lit_128, lit_130, lit_255, lit_256, lit_360, lit_1024, lit_2147483647, m1_pred, Nat.add_sub_cancel, lit_124, lit_38, lit_37, lit_33, lit_126, lit_59, lit_112, lit_108, lit_110, lit_104, lit_47, lit_43, lit_45, lit_41, lit_123, lit_49, lit_58, lit_68, lit_70, lit_80, lit_81, f_Mo_plainShows, mo_ran, q0]
theorem as_10_6 {bodies b : Int32} {kinds kind : Nat → Int32} {c : Nat} (hk : f_Ac_kindOf b bodies kinds = some (nI c)) (hb : ¬ (b < 0 ∨ 50 ≤ Int32.toNatClampNeg b)) (hm : kind (Int32.toNatClampNeg b) = nI c) (hc : c < 8) {fu dep : Nat} (hf : 4 ≤ fu) (hd : dep + 4 ≤ 40) (x : Int32) : alike 4 (cr fu 1 6 x dep bodies b kinds) (fun r td => f_Mo_plainShows b x r td kind) := by
  intro r tr td hr ha
  obtain ⟨f, rfl⟩ : ∃ f, fu = f + 1 := ⟨fu - 1, by omega⟩
  obtain ⟨v0, r0, tr0, td0, p0, q0, a0, k0⟩ := af_0 hk hb hm hc (fu := f) (dep := dep + 1) (by omega) (by omega) x (r + 1) (nt (nI 10) r tr) (nt (nI 10) r td) (by omega) (agr_nt (nI 10) ha)
  unfold cr at p0
  refine ⟨v0 * nI 2, r0, tr0, td0, ?_, ?_, a0, by omega⟩
  · unfold cr
    rw [rc_10 ho_1_6 (by omega) bo_1_0 hk (by omega) (by omega), p0]
    rfl
  · simp (disch := omega) only [n_lt, n_le, n_eq, n_cl, n_sub, nI_add, pk_mul, n_subL, n_Lsub, n_neN, n_Nne, n_leN, n_ltN, n_Nlt, n_Nle, le_T, le_F, lt_T, lt_F, eq_T, eq_F, true_or, or_true, false_or, or_false, true_and, and_true, false_and, and_false, and_self, or_self, not_true_eq_false, not_false_eq_true, decide_eq_true_eq, decide_true, decide_false, Bool.false_eq_true, Bool.true_eq_false, eq_self, ↓reduceIte, Option.bind_some, mo_in, lit_0, lit_1, lit_2, lit_3, lit_4, lit_5, lit_6, lit_7, lit_8, lit_9, lit_10, lit_11, lit_12, lit_13, lit_14, lit_15, lit_16, lit_20, lit_22, lit_24, lit_28, lit_30, lit_31, lit_32, lit_39, lit_40, lit_42, lit_48, lit_50, lit_57, lit_60, lit_61, lit_62, lit_63, lit_64, lit_100, lit_120, lit_121, lit_122, lit_128, lit_130, lit_255, lit_256, lit_360, lit_1024, lit_2147483647, m1_pred, Nat.add_sub_cancel, lit_124, lit_38, lit_37, lit_33, lit_126, lit_59, lit_112, lit_108, lit_110, lit_104, lit_47, lit_43, lit_45, lit_41, lit_123, lit_49, lit_58, lit_68, lit_70, lit_80, lit_81, f_Mo_plainShows, mo_ran, q0]
theorem as_30 {bodies b : Int32} {kinds kind : Nat → Int32} {c : Nat} (hk : f_Ac_kindOf b bodies kinds = some (nI c)) (hb : ¬ (b < 0 ∨ 50 ≤ Int32.toNatClampNeg b)) (hm : kind (Int32.toNatClampNeg b) = nI c) (hc : c < 8) {fu dep : Nat} (hf : 5 ≤ fu) (hd : dep + 5 ≤ 40) (x : Int32) : alike 5 (cr fu 1 2 x dep bodies b kinds) (fun r td => f_Mo_evenShows b x r td kind) := by
  intro r tr td hr ha
  obtain ⟨f, rfl⟩ : ∃ f, fu = f + 1 := ⟨fu - 1, by omega⟩
  obtain ⟨v0, r0, tr0, td0, p0, q0, a0, k0⟩ := as_10_0 hk hb hm hc (fu := f) (dep := dep + 1) (by omega) (by omega) x (r + 1) (nt (nI 30) r tr) (nt (nI 30) r td) (by omega) (agr_nt (nI 30) ha)
  unfold cr at p0
  refine ⟨-v0, r0, tr0, td0, ?_, ?_, a0, by omega⟩
  · unfold cr
    rw [rc_30 ho_1_2 (by omega) bo_1_2 hk (by omega) (by omega), ab_2, p0]
    rfl
  · simp (disch := omega) only [n_lt, n_le, n_eq, n_cl, n_sub, nI_add, pk_mul, n_subL, n_Lsub, n_neN, n_Nne, n_leN, n_ltN, n_Nlt, n_Nle, le_T, le_F, lt_T, lt_F, eq_T, eq_F, true_or, or_true, false_or, or_false, true_and, and_true, false_and, and_false, and_self, or_self, not_true_eq_false, not_false_eq_true, decide_eq_true_eq, decide_true, decide_false, Bool.false_eq_true, Bool.true_eq_false, eq_self, ↓reduceIte, Option.bind_some, mo_in, lit_0, lit_1, lit_2, lit_3, lit_4, lit_5, lit_6, lit_7, lit_8, lit_9, lit_10, lit_11, lit_12, lit_13, lit_14, lit_15, lit_16, lit_20, lit_22, lit_24, lit_28, lit_30, lit_31, lit_32, lit_39, lit_40, lit_42, lit_48, lit_50, lit_57, lit_60, lit_61, lit_62, lit_63, lit_64, lit_100, lit_120, lit_121, lit_122, lit_128, lit_130, lit_255, lit_256, lit_360, lit_1024, lit_2147483647, m1_pred, Nat.add_sub_cancel, lit_124, lit_38, lit_37, lit_33, lit_126, lit_59, lit_112, lit_108, lit_110, lit_104, lit_47, lit_43, lit_45, lit_41, lit_123, lit_49, lit_58, lit_68, lit_70, lit_80, lit_81, f_Mo_evenShows, mo_ran, q0]
theorem as_11_0 {bodies b : Int32} {kinds : Nat → Int32} {c : Nat} (hk : f_Ac_kindOf b bodies kinds = some (nI c))  {fu dep : Nat} (hf : 1 ≤ fu) (hd : dep + 1 ≤ 40) (x : Int32) : alike 1 (cr fu 2 0 x dep bodies b kinds) (fun r td => f_Mo_plainRests b x r td) := by
  intro r tr td hr ha
  obtain ⟨f, rfl⟩ : ∃ f, fu = f + 1 := ⟨fu - 1, by omega⟩
  refine ⟨x ^^^ b, (r + 1), (nt (nI 11) r tr), (nt (nI 11) r td), ?_, ?_, (agr_nt (nI 11) ha), by omega⟩
  · unfold cr
    rw [rc_11 ho_2_0 (by omega) bo_2_0 hk (by omega) (by omega)]
  · simp (disch := omega) only [n_lt, n_le, n_eq, n_cl, n_sub, nI_add, pk_mul, n_subL, n_Lsub, n_neN, n_Nne, n_leN, n_ltN, n_Nlt, n_Nle, le_T, le_F, lt_T, lt_F, eq_T, eq_F, true_or, or_true, false_or, or_false, true_and, and_true, false_and, and_false, and_self, or_self, not_true_eq_false, not_false_eq_true, decide_eq_true_eq, decide_true, decide_false, Bool.false_eq_true, Bool.true_eq_false, eq_self, ↓reduceIte, Option.bind_some, mo_in, lit_0, lit_1, lit_2, lit_3, lit_4, lit_5, lit_6, lit_7, lit_8, lit_9, lit_10, lit_11, lit_12, lit_13, lit_14, lit_15, lit_16, lit_20, lit_22, lit_24, lit_28, lit_30, lit_31, lit_32, lit_39, lit_40, lit_42, lit_48, lit_50, lit_57, lit_60, lit_61, lit_62, lit_63, lit_64, lit_100, lit_120, lit_121, lit_122, lit_128, lit_130, lit_255, lit_256, lit_360, lit_1024, lit_2147483647, m1_pred, Nat.add_sub_cancel, lit_124, lit_38, lit_37, lit_33, lit_126, lit_59, lit_112, lit_108, lit_110, lit_104, lit_47, lit_43, lit_45, lit_41, lit_123, lit_49, lit_58, lit_68, lit_70, lit_80, lit_81, f_Mo_plainRests, mo_ran]
theorem as_11_1 {bodies b : Int32} {kinds : Nat → Int32} {c : Nat} (hk : f_Ac_kindOf b bodies kinds = some (nI c))  {fu dep : Nat} (hf : 1 ≤ fu) (hd : dep + 1 ≤ 40) (x : Int32) : alike 1 (cr fu 2 1 x dep bodies b kinds) (fun r td => f_Mo_plainRests b x r td) := by
  intro r tr td hr ha
  obtain ⟨f, rfl⟩ : ∃ f, fu = f + 1 := ⟨fu - 1, by omega⟩
  refine ⟨x ^^^ b, (r + 1), (nt (nI 11) r tr), (nt (nI 11) r td), ?_, ?_, (agr_nt (nI 11) ha), by omega⟩
  · unfold cr
    rw [rc_11 ho_2_1 (by omega) bo_2_0 hk (by omega) (by omega)]
  · simp (disch := omega) only [n_lt, n_le, n_eq, n_cl, n_sub, nI_add, pk_mul, n_subL, n_Lsub, n_neN, n_Nne, n_leN, n_ltN, n_Nlt, n_Nle, le_T, le_F, lt_T, lt_F, eq_T, eq_F, true_or, or_true, false_or, or_false, true_and, and_true, false_and, and_false, and_self, or_self, not_true_eq_false, not_false_eq_true, decide_eq_true_eq, decide_true, decide_false, Bool.false_eq_true, Bool.true_eq_false, eq_self, ↓reduceIte, Option.bind_some, mo_in, lit_0, lit_1, lit_2, lit_3, lit_4, lit_5, lit_6, lit_7, lit_8, lit_9, lit_10, lit_11, lit_12, lit_13, lit_14, lit_15, lit_16, lit_20, lit_22, lit_24, lit_28, lit_30, lit_31, lit_32, lit_39, lit_40, lit_42, lit_48, lit_50, lit_57, lit_60, lit_61, lit_62, lit_63, lit_64, lit_100, lit_120, lit_121, lit_122, lit_128, lit_130, lit_255, lit_256, lit_360, lit_1024, lit_2147483647, m1_pred, Nat.add_sub_cancel, lit_124, lit_38, lit_37, lit_33, lit_126, lit_59, lit_112, lit_108, lit_110, lit_104, lit_47, lit_43, lit_45, lit_41, lit_123, lit_49, lit_58, lit_68, lit_70, lit_80, lit_81, f_Mo_plainRests, mo_ran]
theorem as_11_2 {bodies b : Int32} {kinds : Nat → Int32} {c : Nat} (hk : f_Ac_kindOf b bodies kinds = some (nI c))  {fu dep : Nat} (hf : 1 ≤ fu) (hd : dep + 1 ≤ 40) (x : Int32) : alike 1 (cr fu 2 2 x dep bodies b kinds) (fun r td => f_Mo_plainRests b x r td) := by
  intro r tr td hr ha
  obtain ⟨f, rfl⟩ : ∃ f, fu = f + 1 := ⟨fu - 1, by omega⟩
  refine ⟨x ^^^ b, (r + 1), (nt (nI 11) r tr), (nt (nI 11) r td), ?_, ?_, (agr_nt (nI 11) ha), by omega⟩
  · unfold cr
    rw [rc_11 ho_2_2 (by omega) bo_2_0 hk (by omega) (by omega)]
  · simp (disch := omega) only [n_lt, n_le, n_eq, n_cl, n_sub, nI_add, pk_mul, n_subL, n_Lsub, n_neN, n_Nne, n_leN, n_ltN, n_Nlt, n_Nle, le_T, le_F, lt_T, lt_F, eq_T, eq_F, true_or, or_true, false_or, or_false, true_and, and_true, false_and, and_false, and_self, or_self, not_true_eq_false, not_false_eq_true, decide_eq_true_eq, decide_true, decide_false, Bool.false_eq_true, Bool.true_eq_false, eq_self, ↓reduceIte, Option.bind_some, mo_in, lit_0, lit_1, lit_2, lit_3, lit_4, lit_5, lit_6, lit_7, lit_8, lit_9, lit_10, lit_11, lit_12, lit_13, lit_14, lit_15, lit_16, lit_20, lit_22, lit_24, lit_28, lit_30, lit_31, lit_32, lit_39, lit_40, lit_42, lit_48, lit_50, lit_57, lit_60, lit_61, lit_62, lit_63, lit_64, lit_100, lit_120, lit_121, lit_122, lit_128, lit_130, lit_255, lit_256, lit_360, lit_1024, lit_2147483647, m1_pred, Nat.add_sub_cancel, lit_124, lit_38, lit_37, lit_33, lit_126, lit_59, lit_112, lit_108, lit_110, lit_104, lit_47, lit_43, lit_45, lit_41, lit_123, lit_49, lit_58, lit_68, lit_70, lit_80, lit_81, f_Mo_plainRests, mo_ran]
theorem as_11_4 {bodies b : Int32} {kinds : Nat → Int32} {c : Nat} (hk : f_Ac_kindOf b bodies kinds = some (nI c))  {fu dep : Nat} (hf : 1 ≤ fu) (hd : dep + 1 ≤ 40) (x : Int32) : alike 1 (cr fu 2 4 x dep bodies b kinds) (fun r td => f_Mo_plainRests b x r td) := by
  intro r tr td hr ha
  obtain ⟨f, rfl⟩ : ∃ f, fu = f + 1 := ⟨fu - 1, by omega⟩
  refine ⟨x ^^^ b, (r + 1), (nt (nI 11) r tr), (nt (nI 11) r td), ?_, ?_, (agr_nt (nI 11) ha), by omega⟩
  · unfold cr
    rw [rc_11 ho_2_4 (by omega) bo_2_0 hk (by omega) (by omega)]
  · simp (disch := omega) only [n_lt, n_le, n_eq, n_cl, n_sub, nI_add, pk_mul, n_subL, n_Lsub, n_neN, n_Nne, n_leN, n_ltN, n_Nlt, n_Nle, le_T, le_F, lt_T, lt_F, eq_T, eq_F, true_or, or_true, false_or, or_false, true_and, and_true, false_and, and_false, and_self, or_self, not_true_eq_false, not_false_eq_true, decide_eq_true_eq, decide_true, decide_false, Bool.false_eq_true, Bool.true_eq_false, eq_self, ↓reduceIte, Option.bind_some, mo_in, lit_0, lit_1, lit_2, lit_3, lit_4, lit_5, lit_6, lit_7, lit_8, lit_9, lit_10, lit_11, lit_12, lit_13, lit_14, lit_15, lit_16, lit_20, lit_22, lit_24, lit_28, lit_30, lit_31, lit_32, lit_39, lit_40, lit_42, lit_48, lit_50, lit_57, lit_60, lit_61, lit_62, lit_63, lit_64, lit_100, lit_120, lit_121, lit_122, lit_128, lit_130, lit_255, lit_256, lit_360, lit_1024, lit_2147483647, m1_pred, Nat.add_sub_cancel, lit_124, lit_38, lit_37, lit_33, lit_126, lit_59, lit_112, lit_108, lit_110, lit_104, lit_47, lit_43, lit_45, lit_41, lit_123, lit_49, lit_58, lit_68, lit_70, lit_80, lit_81, f_Mo_plainRests, mo_ran]
theorem as_11_6 {bodies b : Int32} {kinds : Nat → Int32} {c : Nat} (hk : f_Ac_kindOf b bodies kinds = some (nI c))  {fu dep : Nat} (hf : 1 ≤ fu) (hd : dep + 1 ≤ 40) (x : Int32) : alike 1 (cr fu 2 6 x dep bodies b kinds) (fun r td => f_Mo_plainRests b x r td) := by
  intro r tr td hr ha
  obtain ⟨f, rfl⟩ : ∃ f, fu = f + 1 := ⟨fu - 1, by omega⟩
  refine ⟨x ^^^ b, (r + 1), (nt (nI 11) r tr), (nt (nI 11) r td), ?_, ?_, (agr_nt (nI 11) ha), by omega⟩
  · unfold cr
    rw [rc_11 ho_2_6 (by omega) bo_2_0 hk (by omega) (by omega)]
  · simp (disch := omega) only [n_lt, n_le, n_eq, n_cl, n_sub, nI_add, pk_mul, n_subL, n_Lsub, n_neN, n_Nne, n_leN, n_ltN, n_Nlt, n_Nle, le_T, le_F, lt_T, lt_F, eq_T, eq_F, true_or, or_true, false_or, or_false, true_and, and_true, false_and, and_false, and_self, or_self, not_true_eq_false, not_false_eq_true, decide_eq_true_eq, decide_true, decide_false, Bool.false_eq_true, Bool.true_eq_false, eq_self, ↓reduceIte, Option.bind_some, mo_in, lit_0, lit_1, lit_2, lit_3, lit_4, lit_5, lit_6, lit_7, lit_8, lit_9, lit_10, lit_11, lit_12, lit_13, lit_14, lit_15, lit_16, lit_20, lit_22, lit_24, lit_28, lit_30, lit_31, lit_32, lit_39, lit_40, lit_42, lit_48, lit_50, lit_57, lit_60, lit_61, lit_62, lit_63, lit_64, lit_100, lit_120, lit_121, lit_122, lit_128, lit_130, lit_255, lit_256, lit_360, lit_1024, lit_2147483647, m1_pred, Nat.add_sub_cancel, lit_124, lit_38, lit_37, lit_33, lit_126, lit_59, lit_112, lit_108, lit_110, lit_104, lit_47, lit_43, lit_45, lit_41, lit_123, lit_49, lit_58, lit_68, lit_70, lit_80, lit_81, f_Mo_plainRests, mo_ran]
theorem as_11_7 {bodies b : Int32} {kinds : Nat → Int32} {c : Nat} (hk : f_Ac_kindOf b bodies kinds = some (nI c))  {fu dep : Nat} (hf : 1 ≤ fu) (hd : dep + 1 ≤ 40) (x : Int32) : alike 1 (cr fu 2 7 x dep bodies b kinds) (fun r td => f_Mo_plainRests b x r td) := by
  intro r tr td hr ha
  obtain ⟨f, rfl⟩ : ∃ f, fu = f + 1 := ⟨fu - 1, by omega⟩
  refine ⟨x ^^^ b, (r + 1), (nt (nI 11) r tr), (nt (nI 11) r td), ?_, ?_, (agr_nt (nI 11) ha), by omega⟩
  · unfold cr
    rw [rc_11 ho_2_7 (by omega) bo_2_0 hk (by omega) (by omega)]
  · simp (disch := omega) only [n_lt, n_le, n_eq, n_cl, n_sub, nI_add, pk_mul, n_subL, n_Lsub, n_neN, n_Nne, n_leN, n_ltN, n_Nlt, n_Nle, le_T, le_F, lt_T, lt_F, eq_T, eq_F, true_or, or_true, false_or, or_false, true_and, and_true, false_and, and_false, and_self, or_self, not_true_eq_false, not_false_eq_true, decide_eq_true_eq, decide_true, decide_false, Bool.false_eq_true, Bool.true_eq_false, eq_self, ↓reduceIte, Option.bind_some, mo_in, lit_0, lit_1, lit_2, lit_3, lit_4, lit_5, lit_6, lit_7, lit_8, lit_9, lit_10, lit_11, lit_12, lit_13, lit_14, lit_15, lit_16, lit_20, lit_22, lit_24, lit_28, lit_30, lit_31, lit_32, lit_39, lit_40, lit_42, lit_48, lit_50, lit_57, lit_60, lit_61, lit_62, lit_63, lit_64, lit_100, lit_120, lit_121, lit_122, lit_128, lit_130, lit_255, lit_256, lit_360, lit_1024, lit_2147483647, m1_pred, Nat.add_sub_cancel, lit_124, lit_38, lit_37, lit_33, lit_126, lit_59, lit_112, lit_108, lit_110, lit_104, lit_47, lit_43, lit_45, lit_41, lit_123, lit_49, lit_58, lit_68, lit_70, lit_80, lit_81, f_Mo_plainRests, mo_ran]
theorem af_2 {bodies b : Int32} {kinds kind : Nat → Int32} {c : Nat} (hk : f_Ac_kindOf b bodies kinds = some (nI c)) (hb : ¬ (b < 0 ∨ 50 ≤ Int32.toNatClampNeg b)) (hm : kind (Int32.toNatClampNeg b) = nI c) (hc : c < 8) {fu dep : Nat} (hf : 4 ≤ fu) (hd : dep + 4 ≤ 40) (x : Int32) : alike 6 (cr fu 2 c x dep bodies b kinds) (fun r td => f_Mo_resting b x r kind td) := by
  match c, hc with
  | 0, _ =>
    have hb0 : (b < nI 0) = False := eq_false (fun z => hb (Or.inl z))
    intro r tr td hr ha
    obtain ⟨f, rfl⟩ : ∃ f, fu = f + 1 := ⟨fu - 1, by omega⟩
    refine ⟨x ^^^ b, (r + 1), (nt (nI 11) r tr), (nt (nI 11) r td), ?_, ?_, (agr_nt (nI 11) ha), by omega⟩
    · unfold cr
      rw [rc_11 ho_2_0 (by omega) bo_2_0 hk (by omega) (by omega)]
    · simp (disch := omega) only [n_lt, n_le, n_eq, n_cl, n_sub, nI_add, pk_mul, n_subL, n_Lsub, n_neN, n_Nne, n_leN, n_ltN, n_Nlt, n_Nle, le_T, le_F, lt_T, lt_F, eq_T, eq_F, true_or, or_true, false_or, or_false, true_and, and_true, false_and, and_false, and_self, or_self, not_true_eq_false, not_false_eq_true, decide_eq_true_eq, decide_true, decide_false, Bool.false_eq_true, Bool.true_eq_false, eq_self, ↓reduceIte, Option.bind_some, mo_in, lit_0, lit_1, lit_2, lit_3, lit_4, lit_5, lit_6, lit_7, lit_8, lit_9, lit_10, lit_11, lit_12, lit_13, lit_14, lit_15, lit_16, lit_20, lit_22, lit_24, lit_28, lit_30, lit_31, lit_32, lit_39, lit_40, lit_42, lit_48, lit_50, lit_57, lit_60, lit_61, lit_62, lit_63, lit_64, lit_100, lit_120, lit_121, lit_122, lit_128, lit_130, lit_255, lit_256, lit_360, lit_1024, lit_2147483647, m1_pred, Nat.add_sub_cancel, lit_124, lit_38, lit_37, lit_33, lit_126, lit_59, lit_112, lit_108, lit_110, lit_104, lit_47, lit_43, lit_45, lit_41, lit_123, lit_49, lit_58, lit_68, lit_70, lit_80, lit_81, f_Mo_resting, f_Mo_plainRests, mo_ran, hm, hb0]
  | 1, _ =>
    have hb0 : (b < nI 0) = False := eq_false (fun z => hb (Or.inl z))
    intro r tr td hr ha
    obtain ⟨f, rfl⟩ : ∃ f, fu = f + 1 := ⟨fu - 1, by omega⟩
    refine ⟨x ^^^ b, (r + 1), (nt (nI 11) r tr), (nt (nI 11) r td), ?_, ?_, (agr_nt (nI 11) ha), by omega⟩
    · unfold cr
      rw [rc_11 ho_2_1 (by omega) bo_2_0 hk (by omega) (by omega)]
    · simp (disch := omega) only [n_lt, n_le, n_eq, n_cl, n_sub, nI_add, pk_mul, n_subL, n_Lsub, n_neN, n_Nne, n_leN, n_ltN, n_Nlt, n_Nle, le_T, le_F, lt_T, lt_F, eq_T, eq_F, true_or, or_true, false_or, or_false, true_and, and_true, false_and, and_false, and_self, or_self, not_true_eq_false, not_false_eq_true, decide_eq_true_eq, decide_true, decide_false, Bool.false_eq_true, Bool.true_eq_false, eq_self, ↓reduceIte, Option.bind_some, mo_in, lit_0, lit_1, lit_2, lit_3, lit_4, lit_5, lit_6, lit_7, lit_8, lit_9, lit_10, lit_11, lit_12, lit_13, lit_14, lit_15, lit_16, lit_20, lit_22, lit_24, lit_28, lit_30, lit_31, lit_32, lit_39, lit_40, lit_42, lit_48, lit_50, lit_57, lit_60, lit_61, lit_62, lit_63, lit_64, lit_100, lit_120, lit_121, lit_122, lit_128, lit_130, lit_255, lit_256, lit_360, lit_1024, lit_2147483647, m1_pred, Nat.add_sub_cancel, lit_124, lit_38, lit_37, lit_33, lit_126, lit_59, lit_112, lit_108, lit_110, lit_104, lit_47, lit_43, lit_45, lit_41, lit_123, lit_49, lit_58, lit_68, lit_70, lit_80, lit_81, f_Mo_resting, f_Mo_plainRests, mo_ran, hm, hb0]
  | 2, _ =>
    have hb0 : (b < nI 0) = False := eq_false (fun z => hb (Or.inl z))
    intro r tr td hr ha
    obtain ⟨f, rfl⟩ : ∃ f, fu = f + 1 := ⟨fu - 1, by omega⟩
    refine ⟨x ^^^ b, (r + 1), (nt (nI 11) r tr), (nt (nI 11) r td), ?_, ?_, (agr_nt (nI 11) ha), by omega⟩
    · unfold cr
      rw [rc_11 ho_2_2 (by omega) bo_2_0 hk (by omega) (by omega)]
    · simp (disch := omega) only [n_lt, n_le, n_eq, n_cl, n_sub, nI_add, pk_mul, n_subL, n_Lsub, n_neN, n_Nne, n_leN, n_ltN, n_Nlt, n_Nle, le_T, le_F, lt_T, lt_F, eq_T, eq_F, true_or, or_true, false_or, or_false, true_and, and_true, false_and, and_false, and_self, or_self, not_true_eq_false, not_false_eq_true, decide_eq_true_eq, decide_true, decide_false, Bool.false_eq_true, Bool.true_eq_false, eq_self, ↓reduceIte, Option.bind_some, mo_in, lit_0, lit_1, lit_2, lit_3, lit_4, lit_5, lit_6, lit_7, lit_8, lit_9, lit_10, lit_11, lit_12, lit_13, lit_14, lit_15, lit_16, lit_20, lit_22, lit_24, lit_28, lit_30, lit_31, lit_32, lit_39, lit_40, lit_42, lit_48, lit_50, lit_57, lit_60, lit_61, lit_62, lit_63, lit_64, lit_100, lit_120, lit_121, lit_122, lit_128, lit_130, lit_255, lit_256, lit_360, lit_1024, lit_2147483647, m1_pred, Nat.add_sub_cancel, lit_124, lit_38, lit_37, lit_33, lit_126, lit_59, lit_112, lit_108, lit_110, lit_104, lit_47, lit_43, lit_45, lit_41, lit_123, lit_49, lit_58, lit_68, lit_70, lit_80, lit_81, f_Mo_resting, f_Mo_plainRests, mo_ran, hm, hb0]
  | 3, _ =>
    have hb0 : (b < nI 0) = False := eq_false (fun z => hb (Or.inl z))
    intro r tr td hr ha
    obtain ⟨f, rfl⟩ : ∃ f, fu = f + 1 := ⟨fu - 1, by omega⟩
    obtain ⟨v0, r0, tr0, td0, p0, q0, a0, k0⟩ := as_11_2 hk (fu := f) (dep := dep + 1) (by omega) (by omega) x (r + 1) (nt (nI 40) r tr) (nt (nI 40) r td) (by omega) (agr_nt (nI 40) ha)
    unfold cr at p0
    refine ⟨v0 * nI 3, r0, tr0, td0, ?_, ?_, a0, by omega⟩
    · unfold cr
      rw [rc_40 ho_2_3 (by omega) bo_2_3 hk (by omega) (by omega), ab_3, p0]
      rfl
    · simp (disch := omega) only [n_lt, n_le, n_eq, n_cl, n_sub, nI_add, pk_mul, n_subL, n_Lsub, n_neN, n_Nne, n_leN, n_ltN, n_Nlt, n_Nle, le_T, le_F, lt_T, lt_F, eq_T, eq_F, true_or, or_true, false_or, or_false, true_and, and_true, false_and, and_false, and_self, or_self, not_true_eq_false, not_false_eq_true, decide_eq_true_eq, decide_true, decide_false, Bool.false_eq_true, Bool.true_eq_false, eq_self, ↓reduceIte, Option.bind_some, mo_in, lit_0, lit_1, lit_2, lit_3, lit_4, lit_5, lit_6, lit_7, lit_8, lit_9, lit_10, lit_11, lit_12, lit_13, lit_14, lit_15, lit_16, lit_20, lit_22, lit_24, lit_28, lit_30, lit_31, lit_32, lit_39, lit_40, lit_42, lit_48, lit_50, lit_57, lit_60, lit_61, lit_62, lit_63, lit_64, lit_100, lit_120, lit_121, lit_122, lit_128, lit_130, lit_255, lit_256, lit_360, lit_1024, lit_2147483647, m1_pred, Nat.add_sub_cancel, lit_124, lit_38, lit_37, lit_33, lit_126, lit_59, lit_112, lit_108, lit_110, lit_104, lit_47, lit_43, lit_45, lit_41, lit_123, lit_49, lit_58, lit_68, lit_70, lit_80, lit_81, f_Mo_resting, mo_ran, hm, hb0, q0]
  | 4, _ =>
    have hb0 : (b < nI 0) = False := eq_false (fun z => hb (Or.inl z))
    intro r tr td hr ha
    obtain ⟨f, rfl⟩ : ∃ f, fu = f + 1 := ⟨fu - 1, by omega⟩
    refine ⟨x ^^^ b, (r + 1), (nt (nI 11) r tr), (nt (nI 11) r td), ?_, ?_, (agr_nt (nI 11) ha), by omega⟩
    · unfold cr
      rw [rc_11 ho_2_4 (by omega) bo_2_0 hk (by omega) (by omega)]
    · simp (disch := omega) only [n_lt, n_le, n_eq, n_cl, n_sub, nI_add, pk_mul, n_subL, n_Lsub, n_neN, n_Nne, n_leN, n_ltN, n_Nlt, n_Nle, le_T, le_F, lt_T, lt_F, eq_T, eq_F, true_or, or_true, false_or, or_false, true_and, and_true, false_and, and_false, and_self, or_self, not_true_eq_false, not_false_eq_true, decide_eq_true_eq, decide_true, decide_false, Bool.false_eq_true, Bool.true_eq_false, eq_self, ↓reduceIte, Option.bind_some, mo_in, lit_0, lit_1, lit_2, lit_3, lit_4, lit_5, lit_6, lit_7, lit_8, lit_9, lit_10, lit_11, lit_12, lit_13, lit_14, lit_15, lit_16, lit_20, lit_22, lit_24, lit_28, lit_30, lit_31, lit_32, lit_39, lit_40, lit_42, lit_48, lit_50, lit_57, lit_60, lit_61, lit_62, lit_63, lit_64, lit_100, lit_120, lit_121, lit_122, lit_128, lit_130, lit_255, lit_256, lit_360, lit_1024, lit_2147483647, m1_pred, Nat.add_sub_cancel, lit_124, lit_38, lit_37, lit_33, lit_126, lit_59, lit_112, lit_108, lit_110, lit_104, lit_47, lit_43, lit_45, lit_41, lit_123, lit_49, lit_58, lit_68, lit_70, lit_80, lit_81, f_Mo_resting, f_Mo_plainRests, mo_ran, hm, hb0]
  | 5, _ =>
    have hb0 : (b < nI 0) = False := eq_false (fun z => hb (Or.inl z))
    intro r tr td hr ha
    obtain ⟨f, rfl⟩ : ∃ f, fu = f + 1 := ⟨fu - 1, by omega⟩
    obtain ⟨v0, r0, tr0, td0, p0, q0, a0, k0⟩ := as_11_4 hk (fu := f) (dep := dep + 1) (by omega) (by omega) x (r + 1) (nt (nI 60) r tr) (nt (nI 60) r td) (by omega) (agr_nt (nI 60) ha)
    unfold cr at p0
    obtain ⟨v1, r1, tr1, td1, p1, q1, a1, k1⟩ := af_0 hk hb hm (by omega) (fu := f) (dep := dep + 1) (by omega) (by omega) (nI 2) r0 tr0 td0 (by omega) a0
    unfold cr at p1
    refine ⟨v0 - v1, r1, tr1, td1, ?_, ?_, a1, by omega⟩
    · unfold cr
      rw [rc_60 ho_2_5 (by omega) bo_2_5 hk (by omega) (by omega), ab_5, p0]
      simp only [Option.bind_some, p1]
    · simp (disch := omega) only [n_lt, n_le, n_eq, n_cl, n_sub, nI_add, pk_mul, n_subL, n_Lsub, n_neN, n_Nne, n_leN, n_ltN, n_Nlt, n_Nle, le_T, le_F, lt_T, lt_F, eq_T, eq_F, true_or, or_true, false_or, or_false, true_and, and_true, false_and, and_false, and_self, or_self, not_true_eq_false, not_false_eq_true, decide_eq_true_eq, decide_true, decide_false, Bool.false_eq_true, Bool.true_eq_false, eq_self, ↓reduceIte, Option.bind_some, mo_in, lit_0, lit_1, lit_2, lit_3, lit_4, lit_5, lit_6, lit_7, lit_8, lit_9, lit_10, lit_11, lit_12, lit_13, lit_14, lit_15, lit_16, lit_20, lit_22, lit_24, lit_28, lit_30, lit_31, lit_32, lit_39, lit_40, lit_42, lit_48, lit_50, lit_57, lit_60, lit_61, lit_62, lit_63, lit_64, lit_100, lit_120, lit_121, lit_122, lit_128, lit_130, lit_255, lit_256, lit_360, lit_1024, lit_2147483647, m1_pred, Nat.add_sub_cancel, lit_124, lit_38, lit_37, lit_33, lit_126, lit_59, lit_112, lit_108, lit_110, lit_104, lit_47, lit_43, lit_45, lit_41, lit_123, lit_49, lit_58, lit_68, lit_70, lit_80, lit_81, f_Mo_resting, mo_ran, hm, hb0, q0, q1]
  | 6, _ =>
    have hb0 : (b < nI 0) = False := eq_false (fun z => hb (Or.inl z))
    intro r tr td hr ha
    obtain ⟨f, rfl⟩ : ∃ f, fu = f + 1 := ⟨fu - 1, by omega⟩
    refine ⟨x ^^^ b, (r + 1), (nt (nI 11) r tr), (nt (nI 11) r td), ?_, ?_, (agr_nt (nI 11) ha), by omega⟩
    · unfold cr
      rw [rc_11 ho_2_6 (by omega) bo_2_0 hk (by omega) (by omega)]
    · simp (disch := omega) only [n_lt, n_le, n_eq, n_cl, n_sub, nI_add, pk_mul, n_subL, n_Lsub, n_neN, n_Nne, n_leN, n_ltN, n_Nlt, n_Nle, le_T, le_F, lt_T, lt_F, eq_T, eq_F, true_or, or_true, false_or, or_false, true_and, and_true, false_and, and_false, and_self, or_self, not_true_eq_false, not_false_eq_true, decide_eq_true_eq, decide_true, decide_false, Bool.false_eq_true, Bool.true_eq_false, eq_self, ↓reduceIte, Option.bind_some, mo_in, lit_0, lit_1, lit_2, lit_3, lit_4, lit_5, lit_6, lit_7, lit_8, lit_9, lit_10, lit_11, lit_12, lit_13, lit_14, lit_15, lit_16, lit_20, lit_22, lit_24, lit_28, lit_30, lit_31, lit_32, lit_39, lit_40, lit_42, lit_48, lit_50, lit_57, lit_60, lit_61, lit_62, lit_63, lit_64, lit_100, lit_120, lit_121, lit_122, lit_128, lit_130, lit_255, lit_256, lit_360, lit_1024, lit_2147483647, m1_pred, Nat.add_sub_cancel, lit_124, lit_38, lit_37, lit_33, lit_126, lit_59, lit_112, lit_108, lit_110, lit_104, lit_47, lit_43, lit_45, lit_41, lit_123, lit_49, lit_58, lit_68, lit_70, lit_80, lit_81, f_Mo_resting, f_Mo_plainRests, mo_ran, hm, hb0]
  | 7, _ =>
    have hb0 : (b < nI 0) = False := eq_false (fun z => hb (Or.inl z))
    intro r tr td hr ha
    obtain ⟨f, rfl⟩ : ∃ f, fu = f + 1 := ⟨fu - 1, by omega⟩
    refine ⟨x ^^^ b, (r + 1), (nt (nI 11) r tr), (nt (nI 11) r td), ?_, ?_, (agr_nt (nI 11) ha), by omega⟩
    · unfold cr
      rw [rc_11 ho_2_7 (by omega) bo_2_0 hk (by omega) (by omega)]
    · simp (disch := omega) only [n_lt, n_le, n_eq, n_cl, n_sub, nI_add, pk_mul, n_subL, n_Lsub, n_neN, n_Nne, n_leN, n_ltN, n_Nlt, n_Nle, le_T, le_F, lt_T, lt_F, eq_T, eq_F, true_or, or_true, false_or, or_false, true_and, and_true, false_and, and_false, and_self, or_self, not_true_eq_false, not_false_eq_true, decide_eq_true_eq, decide_true, decide_false, Bool.false_eq_true, Bool.true_eq_false, eq_self, ↓reduceIte, Option.bind_some, mo_in, lit_0, lit_1, lit_2, lit_3, lit_4, lit_5, lit_6, lit_7, lit_8, lit_9, lit_10, lit_11, lit_12, lit_13, lit_14, lit_15, lit_16, lit_20, lit_22, lit_24, lit_28, lit_30, lit_31, lit_32, lit_39, lit_40, lit_42, lit_48, lit_50, lit_57, lit_60, lit_61, lit_62, lit_63, lit_64, lit_100, lit_120, lit_121, lit_122, lit_128, lit_130, lit_255, lit_256, lit_360, lit_1024, lit_2147483647, m1_pred, Nat.add_sub_cancel, lit_124, lit_38, lit_37, lit_33, lit_126, lit_59, lit_112, lit_108, lit_110, lit_104, lit_47, lit_43, lit_45, lit_41, lit_123, lit_49, lit_58, lit_68, lit_70, lit_80, lit_81, f_Mo_resting, f_Mo_plainRests, mo_ran, hm, hb0]
  | n + 8, h => exact absurd h (by omega)
theorem af_1 {bodies b : Int32} {kinds kind : Nat → Int32} {c : Nat} (hk : f_Ac_kindOf b bodies kinds = some (nI c)) (hb : ¬ (b < 0 ∨ 50 ≤ Int32.toNatClampNeg b)) (hm : kind (Int32.toNatClampNeg b) = nI c) (hc : c < 8) {fu dep : Nat} (hf : 6 ≤ fu) (hd : dep + 6 ≤ 40) (x : Int32) : alike 12 (cr fu 1 c x dep bodies b kinds) (fun r td => f_Mo_showing b x r kind td) := by
  match c, hc with
  | 0, _ =>
    have hb0 : (b < nI 0) = False := eq_false (fun z => hb (Or.inl z))
    intro r tr td hr ha
    obtain ⟨f, rfl⟩ : ∃ f, fu = f + 1 := ⟨fu - 1, by omega⟩
    obtain ⟨v0, r0, tr0, td0, p0, q0, a0, k0⟩ := af_0 hk hb hm (by omega) (fu := f) (dep := dep + 1) (by omega) (by omega) x (r + 1) (nt (nI 10) r tr) (nt (nI 10) r td) (by omega) (agr_nt (nI 10) ha)
    unfold cr at p0
    refine ⟨v0 * nI 2, r0, tr0, td0, ?_, ?_, a0, by omega⟩
    · unfold cr
      rw [rc_10 ho_1_0 (by omega) bo_1_0 hk (by omega) (by omega), p0]
      rfl
    · simp (disch := omega) only [n_lt, n_le, n_eq, n_cl, n_sub, nI_add, pk_mul, n_subL, n_Lsub, n_neN, n_Nne, n_leN, n_ltN, n_Nlt, n_Nle, le_T, le_F, lt_T, lt_F, eq_T, eq_F, true_or, or_true, false_or, or_false, true_and, and_true, false_and, and_false, and_self, or_self, not_true_eq_false, not_false_eq_true, decide_eq_true_eq, decide_true, decide_false, Bool.false_eq_true, Bool.true_eq_false, eq_self, ↓reduceIte, Option.bind_some, mo_in, lit_0, lit_1, lit_2, lit_3, lit_4, lit_5, lit_6, lit_7, lit_8, lit_9, lit_10, lit_11, lit_12, lit_13, lit_14, lit_15, lit_16, lit_20, lit_22, lit_24, lit_28, lit_30, lit_31, lit_32, lit_39, lit_40, lit_42, lit_48, lit_50, lit_57, lit_60, lit_61, lit_62, lit_63, lit_64, lit_100, lit_120, lit_121, lit_122, lit_128, lit_130, lit_255, lit_256, lit_360, lit_1024, lit_2147483647, m1_pred, Nat.add_sub_cancel, lit_124, lit_38, lit_37, lit_33, lit_126, lit_59, lit_112, lit_108, lit_110, lit_104, lit_47, lit_43, lit_45, lit_41, lit_123, lit_49, lit_58, lit_68, lit_70, lit_80, lit_81, f_Mo_showing, f_Mo_plainShows, mo_ran, hm, hb0, q0]
  | 1, _ =>
    have hb0 : (b < nI 0) = False := eq_false (fun z => hb (Or.inl z))
    intro r tr td hr ha
    obtain ⟨f, rfl⟩ : ∃ f, fu = f + 1 := ⟨fu - 1, by omega⟩
    obtain ⟨v0, r0, tr0, td0, p0, q0, a0, k0⟩ := af_0 hk hb hm (by omega) (fu := f) (dep := dep + 1) (by omega) (by omega) x (r + 1) (nt (nI 10) r tr) (nt (nI 10) r td) (by omega) (agr_nt (nI 10) ha)
    unfold cr at p0
    refine ⟨v0 * nI 2, r0, tr0, td0, ?_, ?_, a0, by omega⟩
    · unfold cr
      rw [rc_10 ho_1_1 (by omega) bo_1_0 hk (by omega) (by omega), p0]
      rfl
    · simp (disch := omega) only [n_lt, n_le, n_eq, n_cl, n_sub, nI_add, pk_mul, n_subL, n_Lsub, n_neN, n_Nne, n_leN, n_ltN, n_Nlt, n_Nle, le_T, le_F, lt_T, lt_F, eq_T, eq_F, true_or, or_true, false_or, or_false, true_and, and_true, false_and, and_false, and_self, or_self, not_true_eq_false, not_false_eq_true, decide_eq_true_eq, decide_true, decide_false, Bool.false_eq_true, Bool.true_eq_false, eq_self, ↓reduceIte, Option.bind_some, mo_in, lit_0, lit_1, lit_2, lit_3, lit_4, lit_5, lit_6, lit_7, lit_8, lit_9, lit_10, lit_11, lit_12, lit_13, lit_14, lit_15, lit_16, lit_20, lit_22, lit_24, lit_28, lit_30, lit_31, lit_32, lit_39, lit_40, lit_42, lit_48, lit_50, lit_57, lit_60, lit_61, lit_62, lit_63, lit_64, lit_100, lit_120, lit_121, lit_122, lit_128, lit_130, lit_255, lit_256, lit_360, lit_1024, lit_2147483647, m1_pred, Nat.add_sub_cancel, lit_124, lit_38, lit_37, lit_33, lit_126, lit_59, lit_112, lit_108, lit_110, lit_104, lit_47, lit_43, lit_45, lit_41, lit_123, lit_49, lit_58, lit_68, lit_70, lit_80, lit_81, f_Mo_showing, f_Mo_plainShows, mo_ran, hm, hb0, q0]
  | 2, _ =>
    have hb0 : (b < nI 0) = False := eq_false (fun z => hb (Or.inl z))
    intro r tr td hr ha
    obtain ⟨f, rfl⟩ : ∃ f, fu = f + 1 := ⟨fu - 1, by omega⟩
    obtain ⟨v0, r0, tr0, td0, p0, q0, a0, k0⟩ := as_10_0 hk hb hm (by omega) (fu := f) (dep := dep + 1) (by omega) (by omega) x (r + 1) (nt (nI 30) r tr) (nt (nI 30) r td) (by omega) (agr_nt (nI 30) ha)
    unfold cr at p0
    refine ⟨-v0, r0, tr0, td0, ?_, ?_, a0, by omega⟩
    · unfold cr
      rw [rc_30 ho_1_2 (by omega) bo_1_2 hk (by omega) (by omega), ab_2, p0]
      rfl
    · simp (disch := omega) only [n_lt, n_le, n_eq, n_cl, n_sub, nI_add, pk_mul, n_subL, n_Lsub, n_neN, n_Nne, n_leN, n_ltN, n_Nlt, n_Nle, le_T, le_F, lt_T, lt_F, eq_T, eq_F, true_or, or_true, false_or, or_false, true_and, and_true, false_and, and_false, and_self, or_self, not_true_eq_false, not_false_eq_true, decide_eq_true_eq, decide_true, decide_false, Bool.false_eq_true, Bool.true_eq_false, eq_self, ↓reduceIte, Option.bind_some, mo_in, lit_0, lit_1, lit_2, lit_3, lit_4, lit_5, lit_6, lit_7, lit_8, lit_9, lit_10, lit_11, lit_12, lit_13, lit_14, lit_15, lit_16, lit_20, lit_22, lit_24, lit_28, lit_30, lit_31, lit_32, lit_39, lit_40, lit_42, lit_48, lit_50, lit_57, lit_60, lit_61, lit_62, lit_63, lit_64, lit_100, lit_120, lit_121, lit_122, lit_128, lit_130, lit_255, lit_256, lit_360, lit_1024, lit_2147483647, m1_pred, Nat.add_sub_cancel, lit_124, lit_38, lit_37, lit_33, lit_126, lit_59, lit_112, lit_108, lit_110, lit_104, lit_47, lit_43, lit_45, lit_41, lit_123, lit_49, lit_58, lit_68, lit_70, lit_80, lit_81, f_Mo_showing, f_Mo_evenShows, mo_ran, hm, hb0, q0]
  | 3, _ =>
    have hb0 : (b < nI 0) = False := eq_false (fun z => hb (Or.inl z))
    intro r tr td hr ha
    obtain ⟨f, rfl⟩ : ∃ f, fu = f + 1 := ⟨fu - 1, by omega⟩
    obtain ⟨v0, r0, tr0, td0, p0, q0, a0, k0⟩ := as_30 hk hb hm (by omega) (fu := f) (dep := dep + 1) (by omega) (by omega) (x + nI 1) (r + 1) (nt (nI 41) r tr) (nt (nI 41) r td) (by omega) (agr_nt (nI 41) ha)
    unfold cr at p0
    refine ⟨v0, r0, tr0, td0, ?_, ?_, a0, by omega⟩
    · unfold cr
      rw [rc_41 ho_1_3 (by omega) bo_1_3 hk (by omega) (by omega), ab_3, p0]
      rfl
    · simp (disch := omega) only [n_lt, n_le, n_eq, n_cl, n_sub, nI_add, pk_mul, n_subL, n_Lsub, n_neN, n_Nne, n_leN, n_ltN, n_Nlt, n_Nle, le_T, le_F, lt_T, lt_F, eq_T, eq_F, true_or, or_true, false_or, or_false, true_and, and_true, false_and, and_false, and_self, or_self, not_true_eq_false, not_false_eq_true, decide_eq_true_eq, decide_true, decide_false, Bool.false_eq_true, Bool.true_eq_false, eq_self, ↓reduceIte, Option.bind_some, mo_in, lit_0, lit_1, lit_2, lit_3, lit_4, lit_5, lit_6, lit_7, lit_8, lit_9, lit_10, lit_11, lit_12, lit_13, lit_14, lit_15, lit_16, lit_20, lit_22, lit_24, lit_28, lit_30, lit_31, lit_32, lit_39, lit_40, lit_42, lit_48, lit_50, lit_57, lit_60, lit_61, lit_62, lit_63, lit_64, lit_100, lit_120, lit_121, lit_122, lit_128, lit_130, lit_255, lit_256, lit_360, lit_1024, lit_2147483647, m1_pred, Nat.add_sub_cancel, lit_124, lit_38, lit_37, lit_33, lit_126, lit_59, lit_112, lit_108, lit_110, lit_104, lit_47, lit_43, lit_45, lit_41, lit_123, lit_49, lit_58, lit_68, lit_70, lit_80, lit_81, f_Mo_showing, mo_ran, hm, hb0, q0]
  | 4, _ =>
    have hb0 : (b < nI 0) = False := eq_false (fun z => hb (Or.inl z))
    intro r tr td hr ha
    obtain ⟨f, rfl⟩ : ∃ f, fu = f + 1 := ⟨fu - 1, by omega⟩
    obtain ⟨v0, r0, tr0, td0, p0, q0, a0, k0⟩ := af_0 hk hb hm (by omega) (fu := f) (dep := dep + 1) (by omega) (by omega) x (r + 1) (nt (nI 10) r tr) (nt (nI 10) r td) (by omega) (agr_nt (nI 10) ha)
    unfold cr at p0
    refine ⟨v0 * nI 2, r0, tr0, td0, ?_, ?_, a0, by omega⟩
    · unfold cr
      rw [rc_10 ho_1_4 (by omega) bo_1_0 hk (by omega) (by omega), p0]
      rfl
    · simp (disch := omega) only [n_lt, n_le, n_eq, n_cl, n_sub, nI_add, pk_mul, n_subL, n_Lsub, n_neN, n_Nne, n_leN, n_ltN, n_Nlt, n_Nle, le_T, le_F, lt_T, lt_F, eq_T, eq_F, true_or, or_true, false_or, or_false, true_and, and_true, false_and, and_false, and_self, or_self, not_true_eq_false, not_false_eq_true, decide_eq_true_eq, decide_true, decide_false, Bool.false_eq_true, Bool.true_eq_false, eq_self, ↓reduceIte, Option.bind_some, mo_in, lit_0, lit_1, lit_2, lit_3, lit_4, lit_5, lit_6, lit_7, lit_8, lit_9, lit_10, lit_11, lit_12, lit_13, lit_14, lit_15, lit_16, lit_20, lit_22, lit_24, lit_28, lit_30, lit_31, lit_32, lit_39, lit_40, lit_42, lit_48, lit_50, lit_57, lit_60, lit_61, lit_62, lit_63, lit_64, lit_100, lit_120, lit_121, lit_122, lit_128, lit_130, lit_255, lit_256, lit_360, lit_1024, lit_2147483647, m1_pred, Nat.add_sub_cancel, lit_124, lit_38, lit_37, lit_33, lit_126, lit_59, lit_112, lit_108, lit_110, lit_104, lit_47, lit_43, lit_45, lit_41, lit_123, lit_49, lit_58, lit_68, lit_70, lit_80, lit_81, f_Mo_showing, f_Mo_plainShows, mo_ran, hm, hb0, q0]
  | 5, _ =>
    have hb0 : (b < nI 0) = False := eq_false (fun z => hb (Or.inl z))
    intro r tr td hr ha
    obtain ⟨f, rfl⟩ : ∃ f, fu = f + 1 := ⟨fu - 1, by omega⟩
    obtain ⟨v0, r0, tr0, td0, p0, q0, a0, k0⟩ := af_0 hk hb hm (by omega) (fu := f) (dep := dep + 1) (by omega) (by omega) x (r + 1) (nt (nI 10) r tr) (nt (nI 10) r td) (by omega) (agr_nt (nI 10) ha)
    unfold cr at p0
    refine ⟨v0 * nI 2, r0, tr0, td0, ?_, ?_, a0, by omega⟩
    · unfold cr
      rw [rc_10 ho_1_5 (by omega) bo_1_0 hk (by omega) (by omega), p0]
      rfl
    · simp (disch := omega) only [n_lt, n_le, n_eq, n_cl, n_sub, nI_add, pk_mul, n_subL, n_Lsub, n_neN, n_Nne, n_leN, n_ltN, n_Nlt, n_Nle, le_T, le_F, lt_T, lt_F, eq_T, eq_F, true_or, or_true, false_or, or_false, true_and, and_true, false_and, and_false, and_self, or_self, not_true_eq_false, not_false_eq_true, decide_eq_true_eq, decide_true, decide_false, Bool.false_eq_true, Bool.true_eq_false, eq_self, ↓reduceIte, Option.bind_some, mo_in, lit_0, lit_1, lit_2, lit_3, lit_4, lit_5, lit_6, lit_7, lit_8, lit_9, lit_10, lit_11, lit_12, lit_13, lit_14, lit_15, lit_16, lit_20, lit_22, lit_24, lit_28, lit_30, lit_31, lit_32, lit_39, lit_40, lit_42, lit_48, lit_50, lit_57, lit_60, lit_61, lit_62, lit_63, lit_64, lit_100, lit_120, lit_121, lit_122, lit_128, lit_130, lit_255, lit_256, lit_360, lit_1024, lit_2147483647, m1_pred, Nat.add_sub_cancel, lit_124, lit_38, lit_37, lit_33, lit_126, lit_59, lit_112, lit_108, lit_110, lit_104, lit_47, lit_43, lit_45, lit_41, lit_123, lit_49, lit_58, lit_68, lit_70, lit_80, lit_81, f_Mo_showing, f_Mo_plainShows, mo_ran, hm, hb0, q0]
  | 6, _ =>
    have hb0 : (b < nI 0) = False := eq_false (fun z => hb (Or.inl z))
    intro r tr td hr ha
    obtain ⟨f, rfl⟩ : ∃ f, fu = f + 1 := ⟨fu - 1, by omega⟩
    obtain ⟨v0, r0, tr0, td0, p0, q0, a0, k0⟩ := af_0 hk hb hm (by omega) (fu := f) (dep := dep + 1) (by omega) (by omega) x (r + 1) (nt (nI 10) r tr) (nt (nI 10) r td) (by omega) (agr_nt (nI 10) ha)
    unfold cr at p0
    refine ⟨v0 * nI 2, r0, tr0, td0, ?_, ?_, a0, by omega⟩
    · unfold cr
      rw [rc_10 ho_1_6 (by omega) bo_1_0 hk (by omega) (by omega), p0]
      rfl
    · simp (disch := omega) only [n_lt, n_le, n_eq, n_cl, n_sub, nI_add, pk_mul, n_subL, n_Lsub, n_neN, n_Nne, n_leN, n_ltN, n_Nlt, n_Nle, le_T, le_F, lt_T, lt_F, eq_T, eq_F, true_or, or_true, false_or, or_false, true_and, and_true, false_and, and_false, and_self, or_self, not_true_eq_false, not_false_eq_true, decide_eq_true_eq, decide_true, decide_false, Bool.false_eq_true, Bool.true_eq_false, eq_self, ↓reduceIte, Option.bind_some, mo_in, lit_0, lit_1, lit_2, lit_3, lit_4, lit_5, lit_6, lit_7, lit_8, lit_9, lit_10, lit_11, lit_12, lit_13, lit_14, lit_15, lit_16, lit_20, lit_22, lit_24, lit_28, lit_30, lit_31, lit_32, lit_39, lit_40, lit_42, lit_48, lit_50, lit_57, lit_60, lit_61, lit_62, lit_63, lit_64, lit_100, lit_120, lit_121, lit_122, lit_128, lit_130, lit_255, lit_256, lit_360, lit_1024, lit_2147483647, m1_pred, Nat.add_sub_cancel, lit_124, lit_38, lit_37, lit_33, lit_126, lit_59, lit_112, lit_108, lit_110, lit_104, lit_47, lit_43, lit_45, lit_41, lit_123, lit_49, lit_58, lit_68, lit_70, lit_80, lit_81, f_Mo_showing, f_Mo_plainShows, mo_ran, hm, hb0, q0]
  | 7, _ =>
    have hb0 : (b < nI 0) = False := eq_false (fun z => hb (Or.inl z))
    intro r tr td hr ha
    obtain ⟨f, rfl⟩ : ∃ f, fu = f + 1 := ⟨fu - 1, by omega⟩
    obtain ⟨v0, r0, tr0, td0, p0, q0, a0, k0⟩ := as_10_6 hk hb hm (by omega) (fu := f) (dep := dep + 1) (by omega) (by omega) x (r + 1) (nt (nI 80) r tr) (nt (nI 80) r td) (by omega) (agr_nt (nI 80) ha)
    unfold cr at p0
    obtain ⟨v1, r1, tr1, td1, p1, q1, a1, k1⟩ := af_2 hk hb hm (by omega) (fu := f) (dep := dep + 1) (by omega) (by omega) (nI 2) r0 tr0 td0 (by omega) a0
    unfold cr at p1
    refine ⟨v0 + v1, r1, tr1, td1, ?_, ?_, a1, by omega⟩
    · unfold cr
      rw [rc_80 ho_1_7 (by omega) bo_1_7 hk (by omega) (by omega), ab_7, p0]
      simp only [Option.bind_some, p1]
    · simp (disch := omega) only [n_lt, n_le, n_eq, n_cl, n_sub, nI_add, pk_mul, n_subL, n_Lsub, n_neN, n_Nne, n_leN, n_ltN, n_Nlt, n_Nle, le_T, le_F, lt_T, lt_F, eq_T, eq_F, true_or, or_true, false_or, or_false, true_and, and_true, false_and, and_false, and_self, or_self, not_true_eq_false, not_false_eq_true, decide_eq_true_eq, decide_true, decide_false, Bool.false_eq_true, Bool.true_eq_false, eq_self, ↓reduceIte, Option.bind_some, mo_in, lit_0, lit_1, lit_2, lit_3, lit_4, lit_5, lit_6, lit_7, lit_8, lit_9, lit_10, lit_11, lit_12, lit_13, lit_14, lit_15, lit_16, lit_20, lit_22, lit_24, lit_28, lit_30, lit_31, lit_32, lit_39, lit_40, lit_42, lit_48, lit_50, lit_57, lit_60, lit_61, lit_62, lit_63, lit_64, lit_100, lit_120, lit_121, lit_122, lit_128, lit_130, lit_255, lit_256, lit_360, lit_1024, lit_2147483647, m1_pred, Nat.add_sub_cancel, lit_124, lit_38, lit_37, lit_33, lit_126, lit_59, lit_112, lit_108, lit_110, lit_104, lit_47, lit_43, lit_45, lit_41, lit_123, lit_49, lit_58, lit_68, lit_70, lit_80, lit_81, f_Mo_showing, mo_ran, hm, hb0, q0, q1]
  | n + 8, h => exact absurd h (by omega)
theorem as_2_0 {bodies b : Int32} {kinds kind : Nat → Int32} {c : Nat} (hk : f_Ac_kindOf b bodies kinds = some (nI c)) (hb : ¬ (b < 0 ∨ 50 ≤ Int32.toNatClampNeg b)) (hm : kind (Int32.toNatClampNeg b) = nI c) (hc : c < 8) {fu dep : Nat} (hf : 7 ≤ fu) (hd : dep + 7 ≤ 40) (x : Int32) : alike 20 (cr fu 3 0 x dep bodies b kinds) (fun r td => f_Mo_plainTells b x r td kind) := by
  intro r tr td hr ha
  obtain ⟨f, rfl⟩ : ∃ f, fu = f + 1 := ⟨fu - 1, by omega⟩
  obtain ⟨v0, r0, tr0, td0, p0, q0, a0, k0⟩ := af_1 hk hb hm hc (fu := f) (dep := dep + 1) (by omega) (by omega) x (r + 1) (nt (nI 2) r tr) (nt (nI 2) r td) (by omega) (agr_nt (nI 2) ha)
  unfold cr at p0
  obtain ⟨v1, r1, tr1, td1, p1, q1, a1, k1⟩ := af_2 hk hb hm hc (fu := f) (dep := dep + 1) (by omega) (by omega) (nI 1) r0 tr0 td0 (by omega) a0
  unfold cr at p1
  refine ⟨v0 - v1, r1, tr1, td1, ?_, ?_, a1, by omega⟩
  · unfold cr
    rw [rc_2 ho_3_0 (by omega) bo_3_0 hk (by omega) (by omega), p0]
    simp only [Option.bind_some, p1]
  · simp (disch := omega) only [n_lt, n_le, n_eq, n_cl, n_sub, nI_add, pk_mul, n_subL, n_Lsub, n_neN, n_Nne, n_leN, n_ltN, n_Nlt, n_Nle, le_T, le_F, lt_T, lt_F, eq_T, eq_F, true_or, or_true, false_or, or_false, true_and, and_true, false_and, and_false, and_self, or_self, not_true_eq_false, not_false_eq_true, decide_eq_true_eq, decide_true, decide_false, Bool.false_eq_true, Bool.true_eq_false, eq_self, ↓reduceIte, Option.bind_some, mo_in, lit_0, lit_1, lit_2, lit_3, lit_4, lit_5, lit_6, lit_7, lit_8, lit_9, lit_10, lit_11, lit_12, lit_13, lit_14, lit_15, lit_16, lit_20, lit_22, lit_24, lit_28, lit_30, lit_31, lit_32, lit_39, lit_40, lit_42, lit_48, lit_50, lit_57, lit_60, lit_61, lit_62, lit_63, lit_64, lit_100, lit_120, lit_121, lit_122, lit_128, lit_130, lit_255, lit_256, lit_360, lit_1024, lit_2147483647, m1_pred, Nat.add_sub_cancel, lit_124, lit_38, lit_37, lit_33, lit_126, lit_59, lit_112, lit_108, lit_110, lit_104, lit_47, lit_43, lit_45, lit_41, lit_123, lit_49, lit_58, lit_68, lit_70, lit_80, lit_81, f_Mo_plainTells, mo_ran, q0, q1]
theorem as_2_1 {bodies b : Int32} {kinds kind : Nat → Int32} {c : Nat} (hk : f_Ac_kindOf b bodies kinds = some (nI c)) (hb : ¬ (b < 0 ∨ 50 ≤ Int32.toNatClampNeg b)) (hm : kind (Int32.toNatClampNeg b) = nI c) (hc : c < 8) {fu dep : Nat} (hf : 7 ≤ fu) (hd : dep + 7 ≤ 40) (x : Int32) : alike 20 (cr fu 3 1 x dep bodies b kinds) (fun r td => f_Mo_plainTells b x r td kind) := by
  intro r tr td hr ha
  obtain ⟨f, rfl⟩ : ∃ f, fu = f + 1 := ⟨fu - 1, by omega⟩
  obtain ⟨v0, r0, tr0, td0, p0, q0, a0, k0⟩ := af_1 hk hb hm hc (fu := f) (dep := dep + 1) (by omega) (by omega) x (r + 1) (nt (nI 2) r tr) (nt (nI 2) r td) (by omega) (agr_nt (nI 2) ha)
  unfold cr at p0
  obtain ⟨v1, r1, tr1, td1, p1, q1, a1, k1⟩ := af_2 hk hb hm hc (fu := f) (dep := dep + 1) (by omega) (by omega) (nI 1) r0 tr0 td0 (by omega) a0
  unfold cr at p1
  refine ⟨v0 - v1, r1, tr1, td1, ?_, ?_, a1, by omega⟩
  · unfold cr
    rw [rc_2 ho_3_1 (by omega) bo_3_0 hk (by omega) (by omega), p0]
    simp only [Option.bind_some, p1]
  · simp (disch := omega) only [n_lt, n_le, n_eq, n_cl, n_sub, nI_add, pk_mul, n_subL, n_Lsub, n_neN, n_Nne, n_leN, n_ltN, n_Nlt, n_Nle, le_T, le_F, lt_T, lt_F, eq_T, eq_F, true_or, or_true, false_or, or_false, true_and, and_true, false_and, and_false, and_self, or_self, not_true_eq_false, not_false_eq_true, decide_eq_true_eq, decide_true, decide_false, Bool.false_eq_true, Bool.true_eq_false, eq_self, ↓reduceIte, Option.bind_some, mo_in, lit_0, lit_1, lit_2, lit_3, lit_4, lit_5, lit_6, lit_7, lit_8, lit_9, lit_10, lit_11, lit_12, lit_13, lit_14, lit_15, lit_16, lit_20, lit_22, lit_24, lit_28, lit_30, lit_31, lit_32, lit_39, lit_40, lit_42, lit_48, lit_50, lit_57, lit_60, lit_61, lit_62, lit_63, lit_64, lit_100, lit_120, lit_121, lit_122, lit_128, lit_130, lit_255, lit_256, lit_360, lit_1024, lit_2147483647, m1_pred, Nat.add_sub_cancel, lit_124, lit_38, lit_37, lit_33, lit_126, lit_59, lit_112, lit_108, lit_110, lit_104, lit_47, lit_43, lit_45, lit_41, lit_123, lit_49, lit_58, lit_68, lit_70, lit_80, lit_81, f_Mo_plainTells, mo_ran, q0, q1]
theorem as_2_2 {bodies b : Int32} {kinds kind : Nat → Int32} {c : Nat} (hk : f_Ac_kindOf b bodies kinds = some (nI c)) (hb : ¬ (b < 0 ∨ 50 ≤ Int32.toNatClampNeg b)) (hm : kind (Int32.toNatClampNeg b) = nI c) (hc : c < 8) {fu dep : Nat} (hf : 7 ≤ fu) (hd : dep + 7 ≤ 40) (x : Int32) : alike 20 (cr fu 3 2 x dep bodies b kinds) (fun r td => f_Mo_plainTells b x r td kind) := by
  intro r tr td hr ha
  obtain ⟨f, rfl⟩ : ∃ f, fu = f + 1 := ⟨fu - 1, by omega⟩
  obtain ⟨v0, r0, tr0, td0, p0, q0, a0, k0⟩ := af_1 hk hb hm hc (fu := f) (dep := dep + 1) (by omega) (by omega) x (r + 1) (nt (nI 2) r tr) (nt (nI 2) r td) (by omega) (agr_nt (nI 2) ha)
  unfold cr at p0
  obtain ⟨v1, r1, tr1, td1, p1, q1, a1, k1⟩ := af_2 hk hb hm hc (fu := f) (dep := dep + 1) (by omega) (by omega) (nI 1) r0 tr0 td0 (by omega) a0
  unfold cr at p1
  refine ⟨v0 - v1, r1, tr1, td1, ?_, ?_, a1, by omega⟩
  · unfold cr
    rw [rc_2 ho_3_2 (by omega) bo_3_0 hk (by omega) (by omega), p0]
    simp only [Option.bind_some, p1]
  · simp (disch := omega) only [n_lt, n_le, n_eq, n_cl, n_sub, nI_add, pk_mul, n_subL, n_Lsub, n_neN, n_Nne, n_leN, n_ltN, n_Nlt, n_Nle, le_T, le_F, lt_T, lt_F, eq_T, eq_F, true_or, or_true, false_or, or_false, true_and, and_true, false_and, and_false, and_self, or_self, not_true_eq_false, not_false_eq_true, decide_eq_true_eq, decide_true, decide_false, Bool.false_eq_true, Bool.true_eq_false, eq_self, ↓reduceIte, Option.bind_some, mo_in, lit_0, lit_1, lit_2, lit_3, lit_4, lit_5, lit_6, lit_7, lit_8, lit_9, lit_10, lit_11, lit_12, lit_13, lit_14, lit_15, lit_16, lit_20, lit_22, lit_24, lit_28, lit_30, lit_31, lit_32, lit_39, lit_40, lit_42, lit_48, lit_50, lit_57, lit_60, lit_61, lit_62, lit_63, lit_64, lit_100, lit_120, lit_121, lit_122, lit_128, lit_130, lit_255, lit_256, lit_360, lit_1024, lit_2147483647, m1_pred, Nat.add_sub_cancel, lit_124, lit_38, lit_37, lit_33, lit_126, lit_59, lit_112, lit_108, lit_110, lit_104, lit_47, lit_43, lit_45, lit_41, lit_123, lit_49, lit_58, lit_68, lit_70, lit_80, lit_81, f_Mo_plainTells, mo_ran, q0, q1]
theorem as_2_3 {bodies b : Int32} {kinds kind : Nat → Int32} {c : Nat} (hk : f_Ac_kindOf b bodies kinds = some (nI c)) (hb : ¬ (b < 0 ∨ 50 ≤ Int32.toNatClampNeg b)) (hm : kind (Int32.toNatClampNeg b) = nI c) (hc : c < 8) {fu dep : Nat} (hf : 7 ≤ fu) (hd : dep + 7 ≤ 40) (x : Int32) : alike 20 (cr fu 3 3 x dep bodies b kinds) (fun r td => f_Mo_plainTells b x r td kind) := by
  intro r tr td hr ha
  obtain ⟨f, rfl⟩ : ∃ f, fu = f + 1 := ⟨fu - 1, by omega⟩
  obtain ⟨v0, r0, tr0, td0, p0, q0, a0, k0⟩ := af_1 hk hb hm hc (fu := f) (dep := dep + 1) (by omega) (by omega) x (r + 1) (nt (nI 2) r tr) (nt (nI 2) r td) (by omega) (agr_nt (nI 2) ha)
  unfold cr at p0
  obtain ⟨v1, r1, tr1, td1, p1, q1, a1, k1⟩ := af_2 hk hb hm hc (fu := f) (dep := dep + 1) (by omega) (by omega) (nI 1) r0 tr0 td0 (by omega) a0
  unfold cr at p1
  refine ⟨v0 - v1, r1, tr1, td1, ?_, ?_, a1, by omega⟩
  · unfold cr
    rw [rc_2 ho_3_3 (by omega) bo_3_0 hk (by omega) (by omega), p0]
    simp only [Option.bind_some, p1]
  · simp (disch := omega) only [n_lt, n_le, n_eq, n_cl, n_sub, nI_add, pk_mul, n_subL, n_Lsub, n_neN, n_Nne, n_leN, n_ltN, n_Nlt, n_Nle, le_T, le_F, lt_T, lt_F, eq_T, eq_F, true_or, or_true, false_or, or_false, true_and, and_true, false_and, and_false, and_self, or_self, not_true_eq_false, not_false_eq_true, decide_eq_true_eq, decide_true, decide_false, Bool.false_eq_true, Bool.true_eq_false, eq_self, ↓reduceIte, Option.bind_some, mo_in, lit_0, lit_1, lit_2, lit_3, lit_4, lit_5, lit_6, lit_7, lit_8, lit_9, lit_10, lit_11, lit_12, lit_13, lit_14, lit_15, lit_16, lit_20, lit_22, lit_24, lit_28, lit_30, lit_31, lit_32, lit_39, lit_40, lit_42, lit_48, lit_50, lit_57, lit_60, lit_61, lit_62, lit_63, lit_64, lit_100, lit_120, lit_121, lit_122, lit_128, lit_130, lit_255, lit_256, lit_360, lit_1024, lit_2147483647, m1_pred, Nat.add_sub_cancel, lit_124, lit_38, lit_37, lit_33, lit_126, lit_59, lit_112, lit_108, lit_110, lit_104, lit_47, lit_43, lit_45, lit_41, lit_123, lit_49, lit_58, lit_68, lit_70, lit_80, lit_81, f_Mo_plainTells, mo_ran, q0, q1]
theorem as_2_6 {bodies b : Int32} {kinds kind : Nat → Int32} {c : Nat} (hk : f_Ac_kindOf b bodies kinds = some (nI c)) (hb : ¬ (b < 0 ∨ 50 ≤ Int32.toNatClampNeg b)) (hm : kind (Int32.toNatClampNeg b) = nI c) (hc : c < 8) {fu dep : Nat} (hf : 7 ≤ fu) (hd : dep + 7 ≤ 40) (x : Int32) : alike 20 (cr fu 3 6 x dep bodies b kinds) (fun r td => f_Mo_plainTells b x r td kind) := by
  intro r tr td hr ha
  obtain ⟨f, rfl⟩ : ∃ f, fu = f + 1 := ⟨fu - 1, by omega⟩
  obtain ⟨v0, r0, tr0, td0, p0, q0, a0, k0⟩ := af_1 hk hb hm hc (fu := f) (dep := dep + 1) (by omega) (by omega) x (r + 1) (nt (nI 2) r tr) (nt (nI 2) r td) (by omega) (agr_nt (nI 2) ha)
  unfold cr at p0
  obtain ⟨v1, r1, tr1, td1, p1, q1, a1, k1⟩ := af_2 hk hb hm hc (fu := f) (dep := dep + 1) (by omega) (by omega) (nI 1) r0 tr0 td0 (by omega) a0
  unfold cr at p1
  refine ⟨v0 - v1, r1, tr1, td1, ?_, ?_, a1, by omega⟩
  · unfold cr
    rw [rc_2 ho_3_6 (by omega) bo_3_0 hk (by omega) (by omega), p0]
    simp only [Option.bind_some, p1]
  · simp (disch := omega) only [n_lt, n_le, n_eq, n_cl, n_sub, nI_add, pk_mul, n_subL, n_Lsub, n_neN, n_Nne, n_leN, n_ltN, n_Nlt, n_Nle, le_T, le_F, lt_T, lt_F, eq_T, eq_F, true_or, or_true, false_or, or_false, true_and, and_true, false_and, and_false, and_self, or_self, not_true_eq_false, not_false_eq_true, decide_eq_true_eq, decide_true, decide_false, Bool.false_eq_true, Bool.true_eq_false, eq_self, ↓reduceIte, Option.bind_some, mo_in, lit_0, lit_1, lit_2, lit_3, lit_4, lit_5, lit_6, lit_7, lit_8, lit_9, lit_10, lit_11, lit_12, lit_13, lit_14, lit_15, lit_16, lit_20, lit_22, lit_24, lit_28, lit_30, lit_31, lit_32, lit_39, lit_40, lit_42, lit_48, lit_50, lit_57, lit_60, lit_61, lit_62, lit_63, lit_64, lit_100, lit_120, lit_121, lit_122, lit_128, lit_130, lit_255, lit_256, lit_360, lit_1024, lit_2147483647, m1_pred, Nat.add_sub_cancel, lit_124, lit_38, lit_37, lit_33, lit_126, lit_59, lit_112, lit_108, lit_110, lit_104, lit_47, lit_43, lit_45, lit_41, lit_123, lit_49, lit_58, lit_68, lit_70, lit_80, lit_81, f_Mo_plainTells, mo_ran, q0, q1]
theorem as_2_7 {bodies b : Int32} {kinds kind : Nat → Int32} {c : Nat} (hk : f_Ac_kindOf b bodies kinds = some (nI c)) (hb : ¬ (b < 0 ∨ 50 ≤ Int32.toNatClampNeg b)) (hm : kind (Int32.toNatClampNeg b) = nI c) (hc : c < 8) {fu dep : Nat} (hf : 7 ≤ fu) (hd : dep + 7 ≤ 40) (x : Int32) : alike 20 (cr fu 3 7 x dep bodies b kinds) (fun r td => f_Mo_plainTells b x r td kind) := by
  intro r tr td hr ha
  obtain ⟨f, rfl⟩ : ∃ f, fu = f + 1 := ⟨fu - 1, by omega⟩
  obtain ⟨v0, r0, tr0, td0, p0, q0, a0, k0⟩ := af_1 hk hb hm hc (fu := f) (dep := dep + 1) (by omega) (by omega) x (r + 1) (nt (nI 2) r tr) (nt (nI 2) r td) (by omega) (agr_nt (nI 2) ha)
  unfold cr at p0
  obtain ⟨v1, r1, tr1, td1, p1, q1, a1, k1⟩ := af_2 hk hb hm hc (fu := f) (dep := dep + 1) (by omega) (by omega) (nI 1) r0 tr0 td0 (by omega) a0
  unfold cr at p1
  refine ⟨v0 - v1, r1, tr1, td1, ?_, ?_, a1, by omega⟩
  · unfold cr
    rw [rc_2 ho_3_7 (by omega) bo_3_0 hk (by omega) (by omega), p0]
    simp only [Option.bind_some, p1]
  · simp (disch := omega) only [n_lt, n_le, n_eq, n_cl, n_sub, nI_add, pk_mul, n_subL, n_Lsub, n_neN, n_Nne, n_leN, n_ltN, n_Nlt, n_Nle, le_T, le_F, lt_T, lt_F, eq_T, eq_F, true_or, or_true, false_or, or_false, true_and, and_true, false_and, and_false, and_self, or_self, not_true_eq_false, not_false_eq_true, decide_eq_true_eq, decide_true, decide_false, Bool.false_eq_true, Bool.true_eq_false, eq_self, ↓reduceIte, Option.bind_some, mo_in, lit_0, lit_1, lit_2, lit_3, lit_4, lit_5, lit_6, lit_7, lit_8, lit_9, lit_10, lit_11, lit_12, lit_13, lit_14, lit_15, lit_16, lit_20, lit_22, lit_24, lit_28, lit_30, lit_31, lit_32, lit_39, lit_40, lit_42, lit_48, lit_50, lit_57, lit_60, lit_61, lit_62, lit_63, lit_64, lit_100, lit_120, lit_121, lit_122, lit_128, lit_130, lit_255, lit_256, lit_360, lit_1024, lit_2147483647, m1_pred, Nat.add_sub_cancel, lit_124, lit_38, lit_37, lit_33, lit_126, lit_59, lit_112, lit_108, lit_110, lit_104, lit_47, lit_43, lit_45, lit_41, lit_123, lit_49, lit_58, lit_68, lit_70, lit_80, lit_81, f_Mo_plainTells, mo_ran, q0, q1]
theorem as_50 {bodies b : Int32} {kinds kind : Nat → Int32} {c : Nat} (hk : f_Ac_kindOf b bodies kinds = some (nI c)) (hb : ¬ (b < 0 ∨ 50 ≤ Int32.toNatClampNeg b)) (hm : kind (Int32.toNatClampNeg b) = nI c) (hc : c < 8) {fu dep : Nat} (hf : 8 ≤ fu) (hd : dep + 8 ≤ 40) (x : Int32) : alike 22 (cr fu 3 4 x dep bodies b kinds) (fun r td => f_Mo_ruleTells b x r td kind) := by
  intro r tr td hr ha
  obtain ⟨f, rfl⟩ : ∃ f, fu = f + 1 := ⟨fu - 1, by omega⟩
  obtain ⟨v0, r0, tr0, td0, p0, q0, a0, k0⟩ := as_2_1 hk hb hm hc (fu := f) (dep := dep + 1) (by omega) (by omega) x (r + 1) (nt (nI 50) r tr) (nt (nI 50) r td) (by omega) (agr_nt (nI 50) ha)
  unfold cr at p0
  refine ⟨v0 ^^^ nI 5, r0, tr0, td0, ?_, ?_, a0, by omega⟩
  · unfold cr
    rw [rc_50 ho_3_4 (by omega) bo_3_4 hk (by omega) (by omega), ab_4, p0]
    rfl
  · simp (disch := omega) only [n_lt, n_le, n_eq, n_cl, n_sub, nI_add, pk_mul, n_subL, n_Lsub, n_neN, n_Nne, n_leN, n_ltN, n_Nlt, n_Nle, le_T, le_F, lt_T, lt_F, eq_T, eq_F, true_or, or_true, false_or, or_false, true_and, and_true, false_and, and_false, and_self, or_self, not_true_eq_false, not_false_eq_true, decide_eq_true_eq, decide_true, decide_false, Bool.false_eq_true, Bool.true_eq_false, eq_self, ↓reduceIte, Option.bind_some, mo_in, lit_0, lit_1, lit_2, lit_3, lit_4, lit_5, lit_6, lit_7, lit_8, lit_9, lit_10, lit_11, lit_12, lit_13, lit_14, lit_15, lit_16, lit_20, lit_22, lit_24, lit_28, lit_30, lit_31, lit_32, lit_39, lit_40, lit_42, lit_48, lit_50, lit_57, lit_60, lit_61, lit_62, lit_63, lit_64, lit_100, lit_120, lit_121, lit_122, lit_128, lit_130, lit_255, lit_256, lit_360, lit_1024, lit_2147483647, m1_pred, Nat.add_sub_cancel, lit_124, lit_38, lit_37, lit_33, lit_126, lit_59, lit_112, lit_108, lit_110, lit_104, lit_47, lit_43, lit_45, lit_41, lit_123, lit_49, lit_58, lit_68, lit_70, lit_80, lit_81, f_Mo_ruleTells, mo_ran, q0]
theorem af_3 {bodies b : Int32} {kinds kind : Nat → Int32} {c : Nat} (hk : f_Ac_kindOf b bodies kinds = some (nI c)) (hb : ¬ (b < 0 ∨ 50 ≤ Int32.toNatClampNeg b)) (hm : kind (Int32.toNatClampNeg b) = nI c) (hc : c < 8) {fu dep : Nat} (hf : 9 ≤ fu) (hd : dep + 9 ≤ 40) (x : Int32) : alike 30 (cr fu 3 c x dep bodies b kinds) (fun r td => f_Mo_telling b x r kind td) := by
  match c, hc with
  | 0, _ =>
    have hb0 : (b < nI 0) = False := eq_false (fun z => hb (Or.inl z))
    intro r tr td hr ha
    obtain ⟨f, rfl⟩ : ∃ f, fu = f + 1 := ⟨fu - 1, by omega⟩
    obtain ⟨v0, r0, tr0, td0, p0, q0, a0, k0⟩ := af_1 hk hb hm (by omega) (fu := f) (dep := dep + 1) (by omega) (by omega) x (r + 1) (nt (nI 2) r tr) (nt (nI 2) r td) (by omega) (agr_nt (nI 2) ha)
    unfold cr at p0
    obtain ⟨v1, r1, tr1, td1, p1, q1, a1, k1⟩ := af_2 hk hb hm (by omega) (fu := f) (dep := dep + 1) (by omega) (by omega) (nI 1) r0 tr0 td0 (by omega) a0
    unfold cr at p1
    refine ⟨v0 - v1, r1, tr1, td1, ?_, ?_, a1, by omega⟩
    · unfold cr
      rw [rc_2 ho_3_0 (by omega) bo_3_0 hk (by omega) (by omega), p0]
      simp only [Option.bind_some, p1]
    · simp (disch := omega) only [n_lt, n_le, n_eq, n_cl, n_sub, nI_add, pk_mul, n_subL, n_Lsub, n_neN, n_Nne, n_leN, n_ltN, n_Nlt, n_Nle, le_T, le_F, lt_T, lt_F, eq_T, eq_F, true_or, or_true, false_or, or_false, true_and, and_true, false_and, and_false, and_self, or_self, not_true_eq_false, not_false_eq_true, decide_eq_true_eq, decide_true, decide_false, Bool.false_eq_true, Bool.true_eq_false, eq_self, ↓reduceIte, Option.bind_some, mo_in, lit_0, lit_1, lit_2, lit_3, lit_4, lit_5, lit_6, lit_7, lit_8, lit_9, lit_10, lit_11, lit_12, lit_13, lit_14, lit_15, lit_16, lit_20, lit_22, lit_24, lit_28, lit_30, lit_31, lit_32, lit_39, lit_40, lit_42, lit_48, lit_50, lit_57, lit_60, lit_61, lit_62, lit_63, lit_64, lit_100, lit_120, lit_121, lit_122, lit_128, lit_130, lit_255, lit_256, lit_360, lit_1024, lit_2147483647, m1_pred, Nat.add_sub_cancel, lit_124, lit_38, lit_37, lit_33, lit_126, lit_59, lit_112, lit_108, lit_110, lit_104, lit_47, lit_43, lit_45, lit_41, lit_123, lit_49, lit_58, lit_68, lit_70, lit_80, lit_81, f_Mo_telling, f_Mo_plainTells, mo_ran, hm, hb0, q0, q1]
  | 1, _ =>
    have hb0 : (b < nI 0) = False := eq_false (fun z => hb (Or.inl z))
    intro r tr td hr ha
    obtain ⟨f, rfl⟩ : ∃ f, fu = f + 1 := ⟨fu - 1, by omega⟩
    obtain ⟨v0, r0, tr0, td0, p0, q0, a0, k0⟩ := af_1 hk hb hm (by omega) (fu := f) (dep := dep + 1) (by omega) (by omega) x (r + 1) (nt (nI 2) r tr) (nt (nI 2) r td) (by omega) (agr_nt (nI 2) ha)
    unfold cr at p0
    obtain ⟨v1, r1, tr1, td1, p1, q1, a1, k1⟩ := af_2 hk hb hm (by omega) (fu := f) (dep := dep + 1) (by omega) (by omega) (nI 1) r0 tr0 td0 (by omega) a0
    unfold cr at p1
    refine ⟨v0 - v1, r1, tr1, td1, ?_, ?_, a1, by omega⟩
    · unfold cr
      rw [rc_2 ho_3_1 (by omega) bo_3_0 hk (by omega) (by omega), p0]
      simp only [Option.bind_some, p1]
    · simp (disch := omega) only [n_lt, n_le, n_eq, n_cl, n_sub, nI_add, pk_mul, n_subL, n_Lsub, n_neN, n_Nne, n_leN, n_ltN, n_Nlt, n_Nle, le_T, le_F, lt_T, lt_F, eq_T, eq_F, true_or, or_true, false_or, or_false, true_and, and_true, false_and, and_false, and_self, or_self, not_true_eq_false, not_false_eq_true, decide_eq_true_eq, decide_true, decide_false, Bool.false_eq_true, Bool.true_eq_false, eq_self, ↓reduceIte, Option.bind_some, mo_in, lit_0, lit_1, lit_2, lit_3, lit_4, lit_5, lit_6, lit_7, lit_8, lit_9, lit_10, lit_11, lit_12, lit_13, lit_14, lit_15, lit_16, lit_20, lit_22, lit_24, lit_28, lit_30, lit_31, lit_32, lit_39, lit_40, lit_42, lit_48, lit_50, lit_57, lit_60, lit_61, lit_62, lit_63, lit_64, lit_100, lit_120, lit_121, lit_122, lit_128, lit_130, lit_255, lit_256, lit_360, lit_1024, lit_2147483647, m1_pred, Nat.add_sub_cancel, lit_124, lit_38, lit_37, lit_33, lit_126, lit_59, lit_112, lit_108, lit_110, lit_104, lit_47, lit_43, lit_45, lit_41, lit_123, lit_49, lit_58, lit_68, lit_70, lit_80, lit_81, f_Mo_telling, f_Mo_plainTells, mo_ran, hm, hb0, q0, q1]
  | 2, _ =>
    have hb0 : (b < nI 0) = False := eq_false (fun z => hb (Or.inl z))
    intro r tr td hr ha
    obtain ⟨f, rfl⟩ : ∃ f, fu = f + 1 := ⟨fu - 1, by omega⟩
    obtain ⟨v0, r0, tr0, td0, p0, q0, a0, k0⟩ := af_1 hk hb hm (by omega) (fu := f) (dep := dep + 1) (by omega) (by omega) x (r + 1) (nt (nI 2) r tr) (nt (nI 2) r td) (by omega) (agr_nt (nI 2) ha)
    unfold cr at p0
    obtain ⟨v1, r1, tr1, td1, p1, q1, a1, k1⟩ := af_2 hk hb hm (by omega) (fu := f) (dep := dep + 1) (by omega) (by omega) (nI 1) r0 tr0 td0 (by omega) a0
    unfold cr at p1
    refine ⟨v0 - v1, r1, tr1, td1, ?_, ?_, a1, by omega⟩
    · unfold cr
      rw [rc_2 ho_3_2 (by omega) bo_3_0 hk (by omega) (by omega), p0]
      simp only [Option.bind_some, p1]
    · simp (disch := omega) only [n_lt, n_le, n_eq, n_cl, n_sub, nI_add, pk_mul, n_subL, n_Lsub, n_neN, n_Nne, n_leN, n_ltN, n_Nlt, n_Nle, le_T, le_F, lt_T, lt_F, eq_T, eq_F, true_or, or_true, false_or, or_false, true_and, and_true, false_and, and_false, and_self, or_self, not_true_eq_false, not_false_eq_true, decide_eq_true_eq, decide_true, decide_false, Bool.false_eq_true, Bool.true_eq_false, eq_self, ↓reduceIte, Option.bind_some, mo_in, lit_0, lit_1, lit_2, lit_3, lit_4, lit_5, lit_6, lit_7, lit_8, lit_9, lit_10, lit_11, lit_12, lit_13, lit_14, lit_15, lit_16, lit_20, lit_22, lit_24, lit_28, lit_30, lit_31, lit_32, lit_39, lit_40, lit_42, lit_48, lit_50, lit_57, lit_60, lit_61, lit_62, lit_63, lit_64, lit_100, lit_120, lit_121, lit_122, lit_128, lit_130, lit_255, lit_256, lit_360, lit_1024, lit_2147483647, m1_pred, Nat.add_sub_cancel, lit_124, lit_38, lit_37, lit_33, lit_126, lit_59, lit_112, lit_108, lit_110, lit_104, lit_47, lit_43, lit_45, lit_41, lit_123, lit_49, lit_58, lit_68, lit_70, lit_80, lit_81, f_Mo_telling, f_Mo_plainTells, mo_ran, hm, hb0, q0, q1]
  | 3, _ =>
    have hb0 : (b < nI 0) = False := eq_false (fun z => hb (Or.inl z))
    intro r tr td hr ha
    obtain ⟨f, rfl⟩ : ∃ f, fu = f + 1 := ⟨fu - 1, by omega⟩
    obtain ⟨v0, r0, tr0, td0, p0, q0, a0, k0⟩ := af_1 hk hb hm (by omega) (fu := f) (dep := dep + 1) (by omega) (by omega) x (r + 1) (nt (nI 2) r tr) (nt (nI 2) r td) (by omega) (agr_nt (nI 2) ha)
    unfold cr at p0
    obtain ⟨v1, r1, tr1, td1, p1, q1, a1, k1⟩ := af_2 hk hb hm (by omega) (fu := f) (dep := dep + 1) (by omega) (by omega) (nI 1) r0 tr0 td0 (by omega) a0
    unfold cr at p1
    refine ⟨v0 - v1, r1, tr1, td1, ?_, ?_, a1, by omega⟩
    · unfold cr
      rw [rc_2 ho_3_3 (by omega) bo_3_0 hk (by omega) (by omega), p0]
      simp only [Option.bind_some, p1]
    · simp (disch := omega) only [n_lt, n_le, n_eq, n_cl, n_sub, nI_add, pk_mul, n_subL, n_Lsub, n_neN, n_Nne, n_leN, n_ltN, n_Nlt, n_Nle, le_T, le_F, lt_T, lt_F, eq_T, eq_F, true_or, or_true, false_or, or_false, true_and, and_true, false_and, and_false, and_self, or_self, not_true_eq_false, not_false_eq_true, decide_eq_true_eq, decide_true, decide_false, Bool.false_eq_true, Bool.true_eq_false, eq_self, ↓reduceIte, Option.bind_some, mo_in, lit_0, lit_1, lit_2, lit_3, lit_4, lit_5, lit_6, lit_7, lit_8, lit_9, lit_10, lit_11, lit_12, lit_13, lit_14, lit_15, lit_16, lit_20, lit_22, lit_24, lit_28, lit_30, lit_31, lit_32, lit_39, lit_40, lit_42, lit_48, lit_50, lit_57, lit_60, lit_61, lit_62, lit_63, lit_64, lit_100, lit_120, lit_121, lit_122, lit_128, lit_130, lit_255, lit_256, lit_360, lit_1024, lit_2147483647, m1_pred, Nat.add_sub_cancel, lit_124, lit_38, lit_37, lit_33, lit_126, lit_59, lit_112, lit_108, lit_110, lit_104, lit_47, lit_43, lit_45, lit_41, lit_123, lit_49, lit_58, lit_68, lit_70, lit_80, lit_81, f_Mo_telling, f_Mo_plainTells, mo_ran, hm, hb0, q0, q1]
  | 4, _ =>
    have hb0 : (b < nI 0) = False := eq_false (fun z => hb (Or.inl z))
    intro r tr td hr ha
    obtain ⟨f, rfl⟩ : ∃ f, fu = f + 1 := ⟨fu - 1, by omega⟩
    obtain ⟨v0, r0, tr0, td0, p0, q0, a0, k0⟩ := as_2_1 hk hb hm (by omega) (fu := f) (dep := dep + 1) (by omega) (by omega) x (r + 1) (nt (nI 50) r tr) (nt (nI 50) r td) (by omega) (agr_nt (nI 50) ha)
    unfold cr at p0
    refine ⟨v0 ^^^ nI 5, r0, tr0, td0, ?_, ?_, a0, by omega⟩
    · unfold cr
      rw [rc_50 ho_3_4 (by omega) bo_3_4 hk (by omega) (by omega), ab_4, p0]
      rfl
    · simp (disch := omega) only [n_lt, n_le, n_eq, n_cl, n_sub, nI_add, pk_mul, n_subL, n_Lsub, n_neN, n_Nne, n_leN, n_ltN, n_Nlt, n_Nle, le_T, le_F, lt_T, lt_F, eq_T, eq_F, true_or, or_true, false_or, or_false, true_and, and_true, false_and, and_false, and_self, or_self, not_true_eq_false, not_false_eq_true, decide_eq_true_eq, decide_true, decide_false, Bool.false_eq_true, Bool.true_eq_false, eq_self, ↓reduceIte, Option.bind_some, mo_in, lit_0, lit_1, lit_2, lit_3, lit_4, lit_5, lit_6, lit_7, lit_8, lit_9, lit_10, lit_11, lit_12, lit_13, lit_14, lit_15, lit_16, lit_20, lit_22, lit_24, lit_28, lit_30, lit_31, lit_32, lit_39, lit_40, lit_42, lit_48, lit_50, lit_57, lit_60, lit_61, lit_62, lit_63, lit_64, lit_100, lit_120, lit_121, lit_122, lit_128, lit_130, lit_255, lit_256, lit_360, lit_1024, lit_2147483647, m1_pred, Nat.add_sub_cancel, lit_124, lit_38, lit_37, lit_33, lit_126, lit_59, lit_112, lit_108, lit_110, lit_104, lit_47, lit_43, lit_45, lit_41, lit_123, lit_49, lit_58, lit_68, lit_70, lit_80, lit_81, f_Mo_telling, f_Mo_ruleTells, mo_ran, hm, hb0, q0]
  | 5, _ =>
    have hb0 : (b < nI 0) = False := eq_false (fun z => hb (Or.inl z))
    intro r tr td hr ha
    obtain ⟨f, rfl⟩ : ∃ f, fu = f + 1 := ⟨fu - 1, by omega⟩
    obtain ⟨v0, r0, tr0, td0, p0, q0, a0, k0⟩ := as_50 hk hb hm (by omega) (fu := f) (dep := dep + 1) (by omega) (by omega) x (r + 1) (nt (nI 61) r tr) (nt (nI 61) r td) (by omega) (agr_nt (nI 61) ha)
    unfold cr at p0
    refine ⟨v0 + nI 1, r0, tr0, td0, ?_, ?_, a0, by omega⟩
    · unfold cr
      rw [rc_61 ho_3_5 (by omega) bo_3_5 hk (by omega) (by omega), ab_5, p0]
      rfl
    · simp (disch := omega) only [n_lt, n_le, n_eq, n_cl, n_sub, nI_add, pk_mul, n_subL, n_Lsub, n_neN, n_Nne, n_leN, n_ltN, n_Nlt, n_Nle, le_T, le_F, lt_T, lt_F, eq_T, eq_F, true_or, or_true, false_or, or_false, true_and, and_true, false_and, and_false, and_self, or_self, not_true_eq_false, not_false_eq_true, decide_eq_true_eq, decide_true, decide_false, Bool.false_eq_true, Bool.true_eq_false, eq_self, ↓reduceIte, Option.bind_some, mo_in, lit_0, lit_1, lit_2, lit_3, lit_4, lit_5, lit_6, lit_7, lit_8, lit_9, lit_10, lit_11, lit_12, lit_13, lit_14, lit_15, lit_16, lit_20, lit_22, lit_24, lit_28, lit_30, lit_31, lit_32, lit_39, lit_40, lit_42, lit_48, lit_50, lit_57, lit_60, lit_61, lit_62, lit_63, lit_64, lit_100, lit_120, lit_121, lit_122, lit_128, lit_130, lit_255, lit_256, lit_360, lit_1024, lit_2147483647, m1_pred, Nat.add_sub_cancel, lit_124, lit_38, lit_37, lit_33, lit_126, lit_59, lit_112, lit_108, lit_110, lit_104, lit_47, lit_43, lit_45, lit_41, lit_123, lit_49, lit_58, lit_68, lit_70, lit_80, lit_81, f_Mo_telling, mo_ran, hm, hb0, q0]
  | 6, _ =>
    have hb0 : (b < nI 0) = False := eq_false (fun z => hb (Or.inl z))
    intro r tr td hr ha
    obtain ⟨f, rfl⟩ : ∃ f, fu = f + 1 := ⟨fu - 1, by omega⟩
    obtain ⟨v0, r0, tr0, td0, p0, q0, a0, k0⟩ := af_1 hk hb hm (by omega) (fu := f) (dep := dep + 1) (by omega) (by omega) x (r + 1) (nt (nI 2) r tr) (nt (nI 2) r td) (by omega) (agr_nt (nI 2) ha)
    unfold cr at p0
    obtain ⟨v1, r1, tr1, td1, p1, q1, a1, k1⟩ := af_2 hk hb hm (by omega) (fu := f) (dep := dep + 1) (by omega) (by omega) (nI 1) r0 tr0 td0 (by omega) a0
    unfold cr at p1
    refine ⟨v0 - v1, r1, tr1, td1, ?_, ?_, a1, by omega⟩
    · unfold cr
      rw [rc_2 ho_3_6 (by omega) bo_3_0 hk (by omega) (by omega), p0]
      simp only [Option.bind_some, p1]
    · simp (disch := omega) only [n_lt, n_le, n_eq, n_cl, n_sub, nI_add, pk_mul, n_subL, n_Lsub, n_neN, n_Nne, n_leN, n_ltN, n_Nlt, n_Nle, le_T, le_F, lt_T, lt_F, eq_T, eq_F, true_or, or_true, false_or, or_false, true_and, and_true, false_and, and_false, and_self, or_self, not_true_eq_false, not_false_eq_true, decide_eq_true_eq, decide_true, decide_false, Bool.false_eq_true, Bool.true_eq_false, eq_self, ↓reduceIte, Option.bind_some, mo_in, lit_0, lit_1, lit_2, lit_3, lit_4, lit_5, lit_6, lit_7, lit_8, lit_9, lit_10, lit_11, lit_12, lit_13, lit_14, lit_15, lit_16, lit_20, lit_22, lit_24, lit_28, lit_30, lit_31, lit_32, lit_39, lit_40, lit_42, lit_48, lit_50, lit_57, lit_60, lit_61, lit_62, lit_63, lit_64, lit_100, lit_120, lit_121, lit_122, lit_128, lit_130, lit_255, lit_256, lit_360, lit_1024, lit_2147483647, m1_pred, Nat.add_sub_cancel, lit_124, lit_38, lit_37, lit_33, lit_126, lit_59, lit_112, lit_108, lit_110, lit_104, lit_47, lit_43, lit_45, lit_41, lit_123, lit_49, lit_58, lit_68, lit_70, lit_80, lit_81, f_Mo_telling, f_Mo_plainTells, mo_ran, hm, hb0, q0, q1]
  | 7, _ =>
    have hb0 : (b < nI 0) = False := eq_false (fun z => hb (Or.inl z))
    intro r tr td hr ha
    obtain ⟨f, rfl⟩ : ∃ f, fu = f + 1 := ⟨fu - 1, by omega⟩
    obtain ⟨v0, r0, tr0, td0, p0, q0, a0, k0⟩ := af_1 hk hb hm (by omega) (fu := f) (dep := dep + 1) (by omega) (by omega) x (r + 1) (nt (nI 2) r tr) (nt (nI 2) r td) (by omega) (agr_nt (nI 2) ha)
    unfold cr at p0
    obtain ⟨v1, r1, tr1, td1, p1, q1, a1, k1⟩ := af_2 hk hb hm (by omega) (fu := f) (dep := dep + 1) (by omega) (by omega) (nI 1) r0 tr0 td0 (by omega) a0
    unfold cr at p1
    refine ⟨v0 - v1, r1, tr1, td1, ?_, ?_, a1, by omega⟩
    · unfold cr
      rw [rc_2 ho_3_7 (by omega) bo_3_0 hk (by omega) (by omega), p0]
      simp only [Option.bind_some, p1]
    · simp (disch := omega) only [n_lt, n_le, n_eq, n_cl, n_sub, nI_add, pk_mul, n_subL, n_Lsub, n_neN, n_Nne, n_leN, n_ltN, n_Nlt, n_Nle, le_T, le_F, lt_T, lt_F, eq_T, eq_F, true_or, or_true, false_or, or_false, true_and, and_true, false_and, and_false, and_self, or_self, not_true_eq_false, not_false_eq_true, decide_eq_true_eq, decide_true, decide_false, Bool.false_eq_true, Bool.true_eq_false, eq_self, ↓reduceIte, Option.bind_some, mo_in, lit_0, lit_1, lit_2, lit_3, lit_4, lit_5, lit_6, lit_7, lit_8, lit_9, lit_10, lit_11, lit_12, lit_13, lit_14, lit_15, lit_16, lit_20, lit_22, lit_24, lit_28, lit_30, lit_31, lit_32, lit_39, lit_40, lit_42, lit_48, lit_50, lit_57, lit_60, lit_61, lit_62, lit_63, lit_64, lit_100, lit_120, lit_121, lit_122, lit_128, lit_130, lit_255, lit_256, lit_360, lit_1024, lit_2147483647, m1_pred, Nat.add_sub_cancel, lit_124, lit_38, lit_37, lit_33, lit_126, lit_59, lit_112, lit_108, lit_110, lit_104, lit_47, lit_43, lit_45, lit_41, lit_123, lit_49, lit_58, lit_68, lit_70, lit_80, lit_81, f_Mo_telling, f_Mo_plainTells, mo_ran, hm, hb0, q0, q1]
  | n + 8, h => exact absurd h (by omega)
theorem ok_act {t : Nat} {x_L_acts_kinds : Nat → Int32} {x_L_acts_bodies : Int32} {x_L_acts_trace : Nat → Int32} {x_L_acts_ran : Int32} {x_M_kind : Nat → Int32} {x_M_bodies : Int32} {x_M_traced : Nat → Int32} {x_M_traces : Int32} {x_L_acts_number : Int32} (ht : t < 64) (p1 : Int32) (p2 : Int32) (p3 : Int32) (hA : R_acts x_L_acts_kinds x_L_acts_bodies x_L_acts_trace x_L_acts_ran x_M_kind x_M_bodies x_M_traced x_M_traces) : ∃ (r : Int32) (u_L_acts_ran : Int32) (u_L_acts_number : Int32) (u_L_acts_trace : Nat → Int32) (u_M_traces : Int32) (u_M_traced : Nat → Int32), f_OL_act p1 p2 p3 x_L_acts_bodies x_L_acts_ran x_L_acts_number x_L_acts_kinds x_L_acts_trace = some (r, u_L_acts_ran, u_L_acts_number, u_L_acts_trace) ∧ f_Mo_act p1 p2 p3 x_M_bodies x_M_traces x_M_kind x_M_traced = some (r, u_M_traces, u_M_traced) ∧ R_acts x_L_acts_kinds x_L_acts_bodies u_L_acts_trace u_L_acts_ran x_M_kind x_M_bodies u_M_traced u_M_traces := by
  obtain ⟨kb, r, hkb, rfl, rfl, hc, hr, rfl, rfl, h3⟩ := hA
  have none : ∀ (q : Int32), f_OL_act p1 p2 p3 (nI kb) (nI r) q x_L_acts_kinds x_L_acts_trace = some (nI 0, nI 0, q, x_L_acts_trace) → f_Mo_act p1 p2 p3 (nI kb) (nI r) x_M_kind x_M_traced = some (nI 0, nI 0, x_M_traced) → True := fun _ _ _ => trivial
  rcases n_cases p1 with a | ⟨b, hb, rfl⟩
  · simp (disch := omega) only [n_lt, n_le, n_eq, n_cl, n_sub, nI_add, pk_mul, n_subL, n_Lsub, n_neN, n_Nne, n_leN, n_ltN, n_Nlt, n_Nle, le_T, le_F, lt_T, lt_F, eq_T, eq_F, true_or, or_true, false_or, or_false, true_and, and_true, false_and, and_false, and_self, or_self, not_true_eq_false, not_false_eq_true, decide_eq_true_eq, decide_true, decide_false, Bool.false_eq_true, Bool.true_eq_false, eq_self, ↓reduceIte, Option.bind_some, mo_in, lit_0, lit_1, lit_2, lit_3, lit_4, lit_5, lit_6, lit_7, lit_8, lit_9, lit_10, lit_11, lit_12, lit_13, lit_14, lit_15, lit_16, lit_20, lit_22, lit_24, lit_28, lit_30, lit_31, lit_32, lit_39, lit_40, lit_42, lit_48, lit_50, lit_57, lit_60, lit_61, lit_62, lit_63, lit_64, lit_100, lit_120, lit_121, lit_122, lit_128, lit_130, lit_255, lit_256, lit_360, lit_1024, lit_2147483647, f_OL_act, f_Ac_perform, f_Ac_isBody, f_Mo_act, f_Mo_isBody, m_lt a, m_le a, m_gt a, m_ge a, m_eq a]
    exact ⟨_, _, _, _, _, _, rfl, rfl, kb, 0, hkb, rfl, rfl, hc, by omega, rfl, rfl, fun j hj => absurd hj (by omega)⟩
  by_cases hbk : b < kb
  rotate_left
  · simp (disch := omega) only [n_lt, n_le, n_eq, n_cl, n_sub, nI_add, pk_mul, n_subL, n_Lsub, n_neN, n_Nne, n_leN, n_ltN, n_Nlt, n_Nle, le_T, le_F, lt_T, lt_F, eq_T, eq_F, true_or, or_true, false_or, or_false, true_and, and_true, false_and, and_false, and_self, or_self, not_true_eq_false, not_false_eq_true, decide_eq_true_eq, decide_true, decide_false, Bool.false_eq_true, Bool.true_eq_false, eq_self, ↓reduceIte, Option.bind_some, mo_in, lit_0, lit_1, lit_2, lit_3, lit_4, lit_5, lit_6, lit_7, lit_8, lit_9, lit_10, lit_11, lit_12, lit_13, lit_14, lit_15, lit_16, lit_20, lit_22, lit_24, lit_28, lit_30, lit_31, lit_32, lit_39, lit_40, lit_42, lit_48, lit_50, lit_57, lit_60, lit_61, lit_62, lit_63, lit_64, lit_100, lit_120, lit_121, lit_122, lit_128, lit_130, lit_255, lit_256, lit_360, lit_1024, lit_2147483647, f_OL_act, f_Ac_perform, f_Ac_isBody, f_Mo_act, f_Mo_isBody]
    exact ⟨_, _, _, _, _, _, rfl, rfl, kb, 0, hkb, rfl, rfl, hc, by omega, rfl, rfl, fun j hj => absurd hj (by omega)⟩
  rcases n_cases p2 with a | ⟨w, hw, rfl⟩
  · simp (disch := omega) only [n_lt, n_le, n_eq, n_cl, n_sub, nI_add, pk_mul, n_subL, n_Lsub, n_neN, n_Nne, n_leN, n_ltN, n_Nlt, n_Nle, le_T, le_F, lt_T, lt_F, eq_T, eq_F, true_or, or_true, false_or, or_false, true_and, and_true, false_and, and_false, and_self, or_self, not_true_eq_false, not_false_eq_true, decide_eq_true_eq, decide_true, decide_false, Bool.false_eq_true, Bool.true_eq_false, eq_self, ↓reduceIte, Option.bind_some, mo_in, lit_0, lit_1, lit_2, lit_3, lit_4, lit_5, lit_6, lit_7, lit_8, lit_9, lit_10, lit_11, lit_12, lit_13, lit_14, lit_15, lit_16, lit_20, lit_22, lit_24, lit_28, lit_30, lit_31, lit_32, lit_39, lit_40, lit_42, lit_48, lit_50, lit_57, lit_60, lit_61, lit_62, lit_63, lit_64, lit_100, lit_120, lit_121, lit_122, lit_128, lit_130, lit_255, lit_256, lit_360, lit_1024, lit_2147483647, f_OL_act, f_Ac_perform, f_Ac_isBody, f_Mo_act, f_Mo_isBody, m_lt a, m_le a, m_gt a, m_ge a, m_eq a]
    exact ⟨_, _, _, _, _, _, rfl, rfl, kb, 0, hkb, rfl, rfl, hc, by omega, rfl, rfl, fun j hj => absurd hj (by omega)⟩
  by_cases hw3 : w ≤ 3
  rotate_left
  · simp (disch := omega) only [n_lt, n_le, n_eq, n_cl, n_sub, nI_add, pk_mul, n_subL, n_Lsub, n_neN, n_Nne, n_leN, n_ltN, n_Nlt, n_Nle, le_T, le_F, lt_T, lt_F, eq_T, eq_F, true_or, or_true, false_or, or_false, true_and, and_true, false_and, and_false, and_self, or_self, not_true_eq_false, not_false_eq_true, decide_eq_true_eq, decide_true, decide_false, Bool.false_eq_true, Bool.true_eq_false, eq_self, ↓reduceIte, Option.bind_some, mo_in, lit_0, lit_1, lit_2, lit_3, lit_4, lit_5, lit_6, lit_7, lit_8, lit_9, lit_10, lit_11, lit_12, lit_13, lit_14, lit_15, lit_16, lit_20, lit_22, lit_24, lit_28, lit_30, lit_31, lit_32, lit_39, lit_40, lit_42, lit_48, lit_50, lit_57, lit_60, lit_61, lit_62, lit_63, lit_64, lit_100, lit_120, lit_121, lit_122, lit_128, lit_130, lit_255, lit_256, lit_360, lit_1024, lit_2147483647, f_OL_act, f_Ac_perform, f_Ac_isBody, f_Mo_act, f_Mo_isBody]
    exact ⟨_, _, _, _, _, _, rfl, rfl, kb, 0, hkb, rfl, rfl, hc, by omega, rfl, rfl, fun j hj => absurd hj (by omega)⟩
  obtain ⟨c, hc8, k1, k2⟩ := hc b hbk
  have hk : f_Ac_kindOf (nI b) (nI kb) x_L_acts_kinds = some (nI c) := by
    simp (disch := omega) only [n_lt, n_le, n_eq, n_cl, n_sub, nI_add, pk_mul, n_subL, n_Lsub, n_neN, n_Nne, n_leN, n_ltN, n_Nlt, n_Nle, le_T, le_F, lt_T, lt_F, eq_T, eq_F, true_or, or_true, false_or, or_false, true_and, and_true, false_and, and_false, and_self, or_self, not_true_eq_false, not_false_eq_true, decide_eq_true_eq, decide_true, decide_false, Bool.false_eq_true, Bool.true_eq_false, eq_self, ↓reduceIte, Option.bind_some, mo_in, lit_0, lit_1, lit_2, lit_3, lit_4, lit_5, lit_6, lit_7, lit_8, lit_9, lit_10, lit_11, lit_12, lit_13, lit_14, lit_15, lit_16, lit_20, lit_22, lit_24, lit_28, lit_30, lit_31, lit_32, lit_39, lit_40, lit_42, lit_48, lit_50, lit_57, lit_60, lit_61, lit_62, lit_63, lit_64, lit_100, lit_120, lit_121, lit_122, lit_128, lit_130, lit_255, lit_256, lit_360, lit_1024, lit_2147483647, f_Ac_kindOf, f_Ac_isBody, k1]
  have hin : ¬ (nI b < 0 ∨ 50 ≤ Int32.toNatClampNeg (nI b)) := n_in (by omega) (by omega)
  have hm : x_M_kind (Int32.toNatClampNeg (nI b)) = nI c := by rw [n_cl (by omega)]; exact k2
  have h0 : agr 0 x_L_acts_trace x_M_traced := fun j hj => absurd hj (by omega)
  have fin : ∀ (v : Int32) (r' : Nat) (tr' td' : Nat → Int32), f_Ac_run 12 (nI w) (nI c) p3 (nI 0) (nI kb) (nI 0) (nI b) x_L_acts_kinds x_L_acts_trace = some (v, nI r', tr') → f_Mo_act (nI b) (nI w) p3 (nI kb) (nI r) x_M_kind x_M_traced = some (v, nI r', td') → agr r' tr' td' → r' ≤ 0 + 30 → ∃ r_1 u_L_acts_ran u_L_acts_number u_L_acts_trace u_M_traces u_M_traced, f_OL_act (nI b) (nI w) p3 (nI kb) (nI r) x_L_acts_number x_L_acts_kinds x_L_acts_trace = some (r_1, u_L_acts_ran, u_L_acts_number, u_L_acts_trace) ∧ f_Mo_act (nI b) (nI w) p3 (nI kb) (nI r) x_M_kind x_M_traced = some (r_1, u_M_traces, u_M_traced) ∧ R_acts x_L_acts_kinds (nI kb) u_L_acts_trace u_L_acts_ran x_M_kind (nI kb) u_M_traced u_M_traces := by
    intro v r' tr' td' e1 e2 e3 e4
    refine ⟨v, nI r', nI b, tr', nI r', td', ?_, e2, kb, r', hkb, rfl, rfl, hc, by omega, rfl, rfl, e3⟩
    simp (disch := omega) only [n_lt, n_le, n_eq, n_cl, n_sub, nI_add, pk_mul, n_subL, n_Lsub, n_neN, n_Nne, n_leN, n_ltN, n_Nlt, n_Nle, le_T, le_F, lt_T, lt_F, eq_T, eq_F, true_or, or_true, false_or, or_false, true_and, and_true, false_and, and_false, and_self, or_self, not_true_eq_false, not_false_eq_true, decide_eq_true_eq, decide_true, decide_false, Bool.false_eq_true, Bool.true_eq_false, eq_self, ↓reduceIte, Option.bind_some, mo_in, lit_0, lit_1, lit_2, lit_3, lit_4, lit_5, lit_6, lit_7, lit_8, lit_9, lit_10, lit_11, lit_12, lit_13, lit_14, lit_15, lit_16, lit_20, lit_22, lit_24, lit_28, lit_30, lit_31, lit_32, lit_39, lit_40, lit_42, lit_48, lit_50, lit_57, lit_60, lit_61, lit_62, lit_63, lit_64, lit_100, lit_120, lit_121, lit_122, lit_128, lit_130, lit_255, lit_256, lit_360, lit_1024, lit_2147483647, f_OL_act, f_Ac_perform, f_Ac_isBody, k1, e1]
  by_cases w0 : w = 0
  · subst w0
    obtain ⟨v, r', tr', td', p, q, a, k⟩ := af_0 (kind := x_M_kind) hk hin hm hc8 (fu := 12) (dep := 0) (by omega) (by omega) p3 0 x_L_acts_trace x_M_traced (by omega) h0
    exact fin v r' tr' td' p (by simp (disch := omega) only [n_lt, n_le, n_eq, n_cl, n_sub, nI_add, pk_mul, n_subL, n_Lsub, n_neN, n_Nne, n_leN, n_ltN, n_Nlt, n_Nle, le_T, le_F, lt_T, lt_F, eq_T, eq_F, true_or, or_true, false_or, or_false, true_and, and_true, false_and, and_false, and_self, or_self, not_true_eq_false, not_false_eq_true, decide_eq_true_eq, decide_true, decide_false, Bool.false_eq_true, Bool.true_eq_false, eq_self, ↓reduceIte, Option.bind_some, mo_in, lit_0, lit_1, lit_2, lit_3, lit_4, lit_5, lit_6, lit_7, lit_8, lit_9, lit_10, lit_11, lit_12, lit_13, lit_14, lit_15, lit_16, lit_20, lit_22, lit_24, lit_28, lit_30, lit_31, lit_32, lit_39, lit_40, lit_42, lit_48, lit_50, lit_57, lit_60, lit_61, lit_62, lit_63, lit_64, lit_100, lit_120, lit_121, lit_122, lit_128, lit_130, lit_255, lit_256, lit_360, lit_1024, lit_2147483647, f_Mo_act, f_Mo_isBody, q]) a (by omega)
  by_cases w1 : w = 1
  · subst w1
    obtain ⟨v, r', tr', td', p, q, a, k⟩ := af_1 (kind := x_M_kind) hk hin hm hc8 (fu := 12) (dep := 0) (by omega) (by omega) p3 0 x_L_acts_trace x_M_traced (by omega) h0
    exact fin v r' tr' td' p (by simp (disch := omega) only [n_lt, n_le, n_eq, n_cl, n_sub, nI_add, pk_mul, n_subL, n_Lsub, n_neN, n_Nne, n_leN, n_ltN, n_Nlt, n_Nle, le_T, le_F, lt_T, lt_F, eq_T, eq_F, true_or, or_true, false_or, or_false, true_and, and_true, false_and, and_false, and_self, or_self, not_true_eq_false, not_false_eq_true, decide_eq_true_eq, decide_true, decide_false, Bool.false_eq_true, Bool.true_eq_false, eq_self, ↓reduceIte, Option.bind_some, mo_in, lit_0, lit_1, lit_2, lit_3, lit_4, lit_5, lit_6, lit_7, lit_8, lit_9, lit_10, lit_11, lit_12, lit_13, lit_14, lit_15, lit_16, lit_20, lit_22, lit_24, lit_28, lit_30, lit_31, lit_32, lit_39, lit_40, lit_42, lit_48, lit_50, lit_57, lit_60, lit_61, lit_62, lit_63, lit_64, lit_100, lit_120, lit_121, lit_122, lit_128, lit_130, lit_255, lit_256, lit_360, lit_1024, lit_2147483647, f_Mo_act, f_Mo_isBody, q]) a (by omega)
  by_cases w2 : w = 2
  · subst w2
    obtain ⟨v, r', tr', td', p, q, a, k⟩ := af_2 (kind := x_M_kind) hk hin hm hc8 (fu := 12) (dep := 0) (by omega) (by omega) p3 0 x_L_acts_trace x_M_traced (by omega) h0
    exact fin v r' tr' td' p (by simp (disch := omega) only [n_lt, n_le, n_eq, n_cl, n_sub, nI_add, pk_mul, n_subL, n_Lsub, n_neN, n_Nne, n_leN, n_ltN, n_Nlt, n_Nle, le_T, le_F, lt_T, lt_F, eq_T, eq_F, true_or, or_true, false_or, or_false, true_and, and_true, false_and, and_false, and_self, or_self, not_true_eq_false, not_false_eq_true, decide_eq_true_eq, decide_true, decide_false, Bool.false_eq_true, Bool.true_eq_false, eq_self, ↓reduceIte, Option.bind_some, mo_in, lit_0, lit_1, lit_2, lit_3, lit_4, lit_5, lit_6, lit_7, lit_8, lit_9, lit_10, lit_11, lit_12, lit_13, lit_14, lit_15, lit_16, lit_20, lit_22, lit_24, lit_28, lit_30, lit_31, lit_32, lit_39, lit_40, lit_42, lit_48, lit_50, lit_57, lit_60, lit_61, lit_62, lit_63, lit_64, lit_100, lit_120, lit_121, lit_122, lit_128, lit_130, lit_255, lit_256, lit_360, lit_1024, lit_2147483647, f_Mo_act, f_Mo_isBody, q]) a (by omega)
  obtain rfl : w = 3 := by omega
  obtain ⟨v, r', tr', td', p, q, a, k⟩ := af_3 (kind := x_M_kind) hk hin hm hc8 (fu := 12) (dep := 0) (by omega) (by omega) p3 0 x_L_acts_trace x_M_traced (by omega) h0
  exact fin v r' tr' td' p (by simp (disch := omega) only [n_lt, n_le, n_eq, n_cl, n_sub, nI_add, pk_mul, n_subL, n_Lsub, n_neN, n_Nne, n_leN, n_ltN, n_Nlt, n_Nle, le_T, le_F, lt_T, lt_F, eq_T, eq_F, true_or, or_true, false_or, or_false, true_and, and_true, false_and, and_false, and_self, or_self, not_true_eq_false, not_false_eq_true, decide_eq_true_eq, decide_true, decide_false, Bool.false_eq_true, Bool.true_eq_false, eq_self, ↓reduceIte, Option.bind_some, mo_in, lit_0, lit_1, lit_2, lit_3, lit_4, lit_5, lit_6, lit_7, lit_8, lit_9, lit_10, lit_11, lit_12, lit_13, lit_14, lit_15, lit_16, lit_20, lit_22, lit_24, lit_28, lit_30, lit_31, lit_32, lit_39, lit_40, lit_42, lit_48, lit_50, lit_57, lit_60, lit_61, lit_62, lit_63, lit_64, lit_100, lit_120, lit_121, lit_122, lit_128, lit_130, lit_255, lit_256, lit_360, lit_1024, lit_2147483647, f_Mo_act, f_Mo_isBody, q]) a (by omega)



