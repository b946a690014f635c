/-! PURE: a law read is worked out alike: the class runs its code, the model its steps -/
theorem lit_124 : (124 : Int32) = nI 124 := rfl
theorem lit_38 : (38 : Int32) = nI 38 := rfl
theorem lit_37 : (37 : Int32) = nI 37 := rfl
theorem lit_33 : (33 : Int32) = nI 33 := rfl
theorem lit_126 : (126 : Int32) = nI 126 := rfl
theorem lit_59 : (59 : Int32) = nI 59 := rfl
theorem lit_112 : (112 : Int32) = nI 112 := rfl
theorem lit_108 : (108 : Int32) = nI 108 := rfl
theorem lit_110 : (110 : Int32) = nI 110 := rfl
theorem lit_104 : (104 : Int32) = nI 104 := rfl
theorem lit_47 : (47 : Int32) = nI 47 := rfl
theorem lit_43 : (43 : Int32) = nI 43 := rfl
theorem lit_45 : (45 : Int32) = nI 45 := rfl
theorem lit_41 : (41 : Int32) = nI 41 := rfl
theorem lit_123 : (123 : Int32) = nI 123 := rfl
theorem lit_49 : (49 : Int32) = nI 49 := rfl
theorem lit_58 : (58 : Int32) = nI 58 := rfl
theorem lit_68 : (68 : Int32) = nI 68 := rfl
theorem m1_pred (n : Nat) : nI (n + 1) + -nI 1 = nI n := pk_m1 n
theorem sg_binC {o : Int32} (h : lw_bin o = true) : o = -124 ∨ o = -38 ∨ o = -60 ∨ o = -61 ∨ o = -62 ∨ o = -43 ∨ o = -45 ∨ o = -42 ∨ o = -47 ∨ o = -37 := by
  unfold lw_bin at h
  simpa [Bool.or_eq_true, beq_iff_eq, or_assoc] using h
theorem sg_unC {o : Int32} (h : lw_un o = true) : o = -33 ∨ o = -126 := by
  unfold lw_un at h
  simpa [Bool.or_eq_true, beq_iff_eq] using h
theorem sg_bin {o : Int32} (h : lw_bin o = true) : f_Sg_joins o = some true ∧ f_Sg_takesOperands o = some true ∧ (o = -nI 59) = False ∧ (o = -nI 63) = False := by
  rcases sg_binC h with rfl | rfl | rfl | rfl | rfl | rfl | rfl | rfl | rfl | rfl
  · exact ⟨by decide +kernel, by decide +kernel, eq_false (by decide), eq_false (by decide)⟩
  · exact ⟨by decide +kernel, by decide +kernel, eq_false (by decide), eq_false (by decide)⟩
  · exact ⟨by decide +kernel, by decide +kernel, eq_false (by decide), eq_false (by decide)⟩
  · exact ⟨by decide +kernel, by decide +kernel, eq_false (by decide), eq_false (by decide)⟩
  · exact ⟨by decide +kernel, by decide +kernel, eq_false (by decide), eq_false (by decide)⟩
  · exact ⟨by decide +kernel, by decide +kernel, eq_false (by decide), eq_false (by decide)⟩
  · exact ⟨by decide +kernel, by decide +kernel, eq_false (by decide), eq_false (by decide)⟩
  · exact ⟨by decide +kernel, by decide +kernel, eq_false (by decide), eq_false (by decide)⟩
  · exact ⟨by decide +kernel, by decide +kernel, eq_false (by decide), eq_false (by decide)⟩
  · exact ⟨by decide +kernel, by decide +kernel, eq_false (by decide), eq_false (by decide)⟩
theorem sg_un {o : Int32} (h : lw_un o = true) : lw_bin o = false ∧ f_Sg_joins o = some false ∧ f_Sg_takesOperands o = some true ∧ (o = -nI 59) = False ∧ (o = -nI 63) = False := by
  rcases sg_unC h with rfl | rfl
  · exact ⟨by decide +kernel, by decide +kernel, by decide +kernel, eq_false (by decide), eq_false (by decide)⟩
  · exact ⟨by decide +kernel, by decide +kernel, by decide +kernel, eq_false (by decide), eq_false (by decide)⟩
theorem div_m1 (a : Int32) : a / -1 = -a := by
  apply Int32.toInt_inj.mp
  rw [Int32.toInt_div, show (-1 : Int32).toInt = -1 from by decide, Int.tdiv_neg, Int.tdiv_one, Int32.toInt_neg]
theorem rem_m1 (a : Int32) : a - a / -1 * -1 = 0 := by
  rw [div_m1, Int32.mul_neg, Int32.mul_one, Int32.neg_neg, Int32.sub_self]
theorem la_two {o : Int32} (h : lw_bin o = true) (a b : Int32) : f_La_worked o a b = some (lw_two o a b) := by
  rcases sg_binC h with rfl | rfl | rfl | rfl | rfl | rfl | rfl | rfl | rfl | rfl
  · rw [show f_La_worked (-124) a b = (if a = 0 then (if b = 0 then some 0 else some 1) else some 1) from rfl, show lw_two (-124) a b = (if a ≠ 0 ∨ b ≠ 0 then 1 else 0) from rfl]
    by_cases h1 : a = 0
    · by_cases h2 : b = 0
      · simp [h1, h2]
      · simp [h1, h2]
    · by_cases h2 : b = 0
      · simp [h1, h2]
      · simp [h1, h2]
  · rw [show f_La_worked (-38) a b = (if a = 0 then some 0 else (if b = 0 then some 0 else some 1)) from rfl, show lw_two (-38) a b = (if a ≠ 0 ∧ b ≠ 0 then 1 else 0) from rfl]
    by_cases h1 : a = 0
    · by_cases h2 : b = 0
      · simp [h1, h2]
      · simp [h1, h2]
    · by_cases h2 : b = 0
      · simp [h1, h2]
      · simp [h1, h2]
  · rw [show f_La_worked (-60) a b = (if b ≤ a then some 0 else some 1) from rfl, show lw_two (-60) a b = (if a < b then 1 else 0) from rfl]
    by_cases h1 : b ≤ a
    · rw [if_pos h1, if_neg (Int32.not_lt.mpr h1)]
    · rw [if_neg h1, if_pos (Int32.not_le.mp h1)]
  · rw [show f_La_worked (-61) a b = (if a = b then some 1 else some 0) from rfl, show lw_two (-61) a b = (if a = b then 1 else 0) from rfl]
    by_cases h1 : a = b
    · rw [if_pos h1, if_pos h1]
    · rw [if_neg h1, if_neg h1]
  · rw [show f_La_worked (-62) a b = (if a ≤ b then some 0 else some 1) from rfl, show lw_two (-62) a b = (if b < a then 1 else 0) from rfl]
    by_cases h1 : a ≤ b
    · rw [if_pos h1, if_neg (Int32.not_lt.mpr h1)]
    · rw [if_neg h1, if_pos (Int32.not_le.mp h1)]
  · rw [show f_La_worked (-43) a b = (some (a + b)) from rfl, show lw_two (-43) a b = (a + b) from rfl]
  · rw [show f_La_worked (-45) a b = (some (a - b)) from rfl, show lw_two (-45) a b = (a - b) from rfl]
  · rw [show f_La_worked (-42) a b = (some (a * b)) from rfl, show lw_two (-42) a b = (a * b) from rfl]
  · rw [show f_La_worked (-47) a b = (if b = 0 then some 0 else (if b = 0 then none else some (a / b))) from rfl, show lw_two (-47) a b = (if b = 0 then 0 else a / b) from rfl]
    by_cases h1 : b = 0
    · rw [if_pos h1, if_pos h1]
    · rw [if_neg h1, if_neg h1, if_neg h1]
  · rw [show f_La_worked (-37) a b = (if b = 0 then some 0 else (if b = 0 then none else some (a - a / b * b))) from rfl, show lw_two (-37) a b = (if b = 0 then 0 else a - a / b * b) from rfl]
    by_cases h1 : b = 0
    · rw [if_pos h1, if_pos h1]
    · rw [if_neg h1, if_neg h1, if_neg h1]
theorem la_one {o : Int32} (h : lw_un o = true) (a b : Int32) : f_La_worked o a b = some (lw_one o b) := by
  rcases sg_unC h with rfl | rfl
  · rw [show f_La_worked (-33) a b = (if b = 0 then some 1 else some 0) from rfl, show lw_one (-33) b = (if b = 0 then 1 else 0) from rfl]
    by_cases h1 : b = 0
    · rw [if_pos h1, if_pos h1]
    · rw [if_neg h1, if_neg h1]
  · rfl
theorem al_bin {o : Int32} (h : lw_bin o = true) : ∃ c : Nat, 4 < c ∧ c < 200 ∧ (lw_alike o).1 = nI c ∧ ∀ a b, f_Mo_twoOf (nI c) a b = some (lw_two o a b) := by
  rcases sg_binC h with rfl | rfl | rfl | rfl | rfl | rfl | rfl | rfl | rfl | rfl
  · refine ⟨124, by omega, by omega, by decide +kernel, fun a b => ?_⟩
    rw [show f_Mo_twoOf (nI 124) a b = (if a = 0 then (if b = 0 then some 0 else some 1) else some 1) from rfl, show lw_two (-124) a b = (if a ≠ 0 ∨ b ≠ 0 then 1 else 0) from rfl]
    by_cases h1 : a = 0
    · by_cases h2 : b = 0
      · simp [h1, h2]
      · simp [h1, h2]
    · by_cases h2 : b = 0
      · simp [h1, h2]
      · simp [h1, h2]
  · refine ⟨38, by omega, by omega, by decide +kernel, fun a b => ?_⟩
    rw [show f_Mo_twoOf (nI 38) a b = (if a = 0 then some 0 else (if b = 0 then some 0 else some 1)) from rfl, show lw_two (-38) a b = (if a ≠ 0 ∧ b ≠ 0 then 1 else 0) from rfl]
    by_cases h1 : a = 0
    · by_cases h2 : b = 0
      · simp [h1, h2]
      · simp [h1, h2]
    · by_cases h2 : b = 0
      · simp [h1, h2]
      · simp [h1, h2]
  · refine ⟨60, by omega, by omega, by decide +kernel, fun a b => ?_⟩
    rw [show f_Mo_twoOf (nI 60) a b = (if b ≤ a then some 0 else some 1) from rfl, show lw_two (-60) a b = (if a < b then 1 else 0) from rfl]
    by_cases h1 : b ≤ a
    · rw [if_pos h1, if_neg (Int32.not_lt.mpr h1)]
    · rw [if_neg h1, if_pos (Int32.not_le.mp h1)]
  · refine ⟨61, by omega, by omega, by decide +kernel, fun a b => ?_⟩
    rw [show f_Mo_twoOf (nI 61) a b = (if a = b then some 1 else some 0) from rfl, show lw_two (-61) a b = (if a = b then 1 else 0) from rfl]
    by_cases h1 : a = b
    · rw [if_pos h1, if_pos h1]
    · rw [if_neg h1, if_neg h1]
  · refine ⟨62, by omega, by omega, by decide +kernel, fun a b => ?_⟩
    rw [show f_Mo_twoOf (nI 62) a b = (if a ≤ b then some 0 else some 1) from rfl, show lw_two (-62) a b = (if b < a then 1 else 0) from rfl]
    by_cases h1 : a ≤ b
    · rw [if_pos h1, if_neg (Int32.not_lt.mpr h1)]
    · rw [if_neg h1, if_pos (Int32.not_le.mp h1)]
  · refine ⟨43, by omega, by omega, by decide +kernel, fun a b => ?_⟩
    rw [show f_Mo_twoOf (nI 43) a b = (some (a + b)) from rfl, show lw_two (-43) a b = (a + b) from rfl]
  · refine ⟨45, by omega, by omega, by decide +kernel, fun a b => ?_⟩
    rw [show f_Mo_twoOf (nI 45) a b = (some (a - b)) from rfl, show lw_two (-45) a b = (a - b) from rfl]
  · refine ⟨42, by omega, by omega, by decide +kernel, fun a b => ?_⟩
    rw [show f_Mo_twoOf (nI 42) a b = (some (a * b)) from rfl, show lw_two (-42) a b = (a * b) from rfl]
  · refine ⟨47, by omega, by omega, by decide +kernel, fun a b => ?_⟩
    rw [show f_Mo_twoOf (nI 47) a b = (if b = 0 then some 0 else (if b = -1 then some (-a) else (if b = 0 then none else some (a / b)))) from rfl, show lw_two (-47) a b = (if b = 0 then 0 else a / b) from rfl]
    by_cases h1 : b = 0
    · rw [if_pos h1, if_pos h1]
    · by_cases h2 : b = -1
      · subst h2
        show some (-a) = some (a / -1)
        rw [div_m1]
      · simp [h1, h2]
  · refine ⟨37, by omega, by omega, by decide +kernel, fun a b => ?_⟩
    rw [show f_Mo_twoOf (nI 37) a b = (if b = 0 then some 0 else (if b = -1 then some 0 else (if b = 0 then none else some (a - a / b * b)))) from rfl, show lw_two (-37) a b = (if b = 0 then 0 else a - a / b * b) from rfl]
    by_cases h1 : b = 0
    · rw [if_pos h1, if_pos h1]
    · by_cases h2 : b = -1
      · subst h2
        show some 0 = some (a - a / -1 * -1)
        rw [rem_m1]
      · simp [h1, h2]
theorem hi_all : ∀ p, p < 1024 → f_La_highestOf (nI p) = some (nI (lw_hi p)) := by decide +kernel
theorem lit_all : ∀ p, p < 1024 → f_Mo_litOf (nI p) = some (nI (lw_bits p 10)) := by decide +kernel
theorem bits_10 : ∀ p, p < 1024 → lw_bits p 32 = lw_bits p 10 := by decide +kernel
theorem hi_shr : ∀ p, p < 1024 → lw_hi p ≤ 10 ∧ ∀ h, h < 11 → (p / 2 ^ h = 0 ↔ lw_hi p ≤ h) := by decide +kernel
/-- a name or a number -/
theorem sg_no {o : Int32} (hs : lw_sign o) (h1 : lw_bin o = false) (h2 : lw_un o = false) {p : Nat} (hp : p < 1024) (n : Nat) : f_Sg_joins o = some false ∧ f_Sg_takesOperands o = some false ∧ (o = -nI 59) = False ∧ (o = -nI 63) = False ∧ f_La_operand o (nI p) (nI n) = some (lw_env n p o) := by
  rcases hs with h | h | rfl | rfl | rfl | rfl | ⟨k, hk, rfl⟩
  · rw [h1] at h; cases h
  · rw [h2] at h; cases h
  · exact ⟨by decide +kernel, by decide +kernel, eq_false (by decide), eq_false (by decide), rfl⟩
  · refine ⟨by decide +kernel, by decide +kernel, eq_false (by decide), eq_false (by decide), ?_⟩
    rw [show f_La_operand (-108) (nI p) (nI n) = (f_JI_bitCount (nI p)).bind (fun r1 => some r1) from rfl, ji_count (by omega), bits_10 p hp]
    rfl
  · exact ⟨by decide +kernel, by decide +kernel, eq_false (by decide), eq_false (by decide), rfl⟩
  · refine ⟨by decide +kernel, by decide +kernel, eq_false (by decide), eq_false (by decide), ?_⟩
    rw [show f_La_operand (-104) (nI p) (nI n) = (f_La_highestOf (nI p)).bind (fun r1 => some r1) from rfl, hi_all p hp]
    rfl
  · refine ⟨?_, ?_, n_neN (by omega) (by omega) (by omega), n_neN (by omega) (by omega) (by omega), ?_⟩
    · unfold f_Sg_joins; simp (disch := omega) only [n_lt, n_le, n_eq, n_cl, n_sub, nI_add, pk_mul, n_subL, n_Lsub, n_neN, n_Nne, n_leN, n_ltN, n_Nlt, n_Nle, le_T, le_F, lt_T, lt_F, eq_T, eq_F, true_or, or_true, false_or, or_false, true_and, and_true, false_and, and_false, and_self, or_self, not_true_eq_false, not_false_eq_true, decide_eq_true_eq, decide_true, decide_false, Bool.false_eq_true, Bool.true_eq_false, eq_self, ↓reduceIte, Option.bind_some, mo_in, lit_0, lit_1, lit_2, lit_3, lit_4, lit_5, lit_6, lit_7, lit_8, lit_9, lit_10, lit_11, lit_12, lit_13, lit_14, lit_15, lit_16, lit_20, lit_22, lit_24, lit_28, lit_30, lit_31, lit_32, lit_39, lit_40, lit_42, lit_48, lit_50, lit_57, lit_60, lit_61, lit_62, lit_63, lit_64, lit_100, lit_120, lit_121, lit_122, lit_128, lit_130, lit_255, lit_256, lit_360, lit_1024, lit_2147483647, m1_pred, Nat.add_sub_cancel, lit_124, lit_38, lit_37, lit_33, lit_126, lit_59, lit_112, lit_108, lit_110, lit_104, lit_47, lit_43, lit_45, lit_41, lit_123, lit_49, lit_58, lit_68]
    · unfold f_Sg_takesOperands f_Sg_joins; simp (disch := omega) only [n_lt, n_le, n_eq, n_cl, n_sub, nI_add, pk_mul, n_subL, n_Lsub, n_neN, n_Nne, n_leN, n_ltN, n_Nlt, n_Nle, le_T, le_F, lt_T, lt_F, eq_T, eq_F, true_or, or_true, false_or, or_false, true_and, and_true, false_and, and_false, and_self, or_self, not_true_eq_false, not_false_eq_true, decide_eq_true_eq, decide_true, decide_false, Bool.false_eq_true, Bool.true_eq_false, eq_self, ↓reduceIte, Option.bind_some, mo_in, lit_0, lit_1, lit_2, lit_3, lit_4, lit_5, lit_6, lit_7, lit_8, lit_9, lit_10, lit_11, lit_12, lit_13, lit_14, lit_15, lit_16, lit_20, lit_22, lit_24, lit_28, lit_30, lit_31, lit_32, lit_39, lit_40, lit_42, lit_48, lit_50, lit_57, lit_60, lit_61, lit_62, lit_63, lit_64, lit_100, lit_120, lit_121, lit_122, lit_128, lit_130, lit_255, lit_256, lit_360, lit_1024, lit_2147483647, m1_pred, Nat.add_sub_cancel, lit_124, lit_38, lit_37, lit_33, lit_126, lit_59, lit_112, lit_108, lit_110, lit_104, lit_47, lit_43, lit_45, lit_41, lit_123, lit_49, lit_58, lit_68]
    · unfold f_La_operand lw_env; simp (disch := omega) only [n_lt, n_le, n_eq, n_cl, n_sub, nI_add, pk_mul, n_subL, n_Lsub, n_neN, n_Nne, n_leN, n_ltN, n_Nlt, n_Nle, le_T, le_F, lt_T, lt_F, eq_T, eq_F, true_or, or_true, false_or, or_false, true_and, and_true, false_and, and_false, and_self, or_self, not_true_eq_false, not_false_eq_true, decide_eq_true_eq, decide_true, decide_false, Bool.false_eq_true, Bool.true_eq_false, eq_self, ↓reduceIte, Option.bind_some, mo_in, lit_0, lit_1, lit_2, lit_3, lit_4, lit_5, lit_6, lit_7, lit_8, lit_9, lit_10, lit_11, lit_12, lit_13, lit_14, lit_15, lit_16, lit_20, lit_22, lit_24, lit_28, lit_30, lit_31, lit_32, lit_39, lit_40, lit_42, lit_48, lit_50, lit_57, lit_60, lit_61, lit_62, lit_63, lit_64, lit_100, lit_120, lit_121, lit_122, lit_128, lit_130, lit_255, lit_256, lit_360, lit_1024, lit_2147483647, m1_pred, Nat.add_sub_cancel, lit_124, lit_38, lit_37, lit_33, lit_126, lit_59, lit_112, lit_108, lit_110, lit_104, lit_47, lit_43, lit_45, lit_41, lit_123, lit_49, lit_58, lit_68]
def st_ok (f : Nat → Int32) : List Int32 → Prop
  | [] => True
  | x :: r => f r.length = x ∧ st_ok f r
theorem st_upd {f : Nat → Int32} {k : Nat} (v : Int32) : ∀ {st : List Int32}, st.length ≤ k → st_ok f st → st_ok (upd f k v) st
  | [], _, _ => trivial
  | x :: r, hk, h => by
    have h2 : r.length + 1 ≤ k := hk
    exact ⟨by rw [pk_un (by omega)]; exact h.1, st_upd v (by omega) h.2⟩
theorem st_push {f : Nat → Int32} {st : List Int32} (v : Int32) (h : st_ok f st) : st_ok (upd f st.length v) (v :: st) := ⟨pk_us, st_upd v (Nat.le_refl _) h⟩
theorem do_bin {env : Int32 → Int32} {o a b : Int32} {r : List Int32} (h : lw_bin o = true) : lw_do env (b :: a :: r) o = lw_two o a b :: r := by
  unfold lw_do; rw [if_pos h]
theorem do_un {env : Int32 → Int32} {o b : Int32} {r : List Int32} (h : lw_un o = true) : lw_do env (b :: r) o = lw_one o b :: r := by
  unfold lw_do; rw [if_neg (by rw [(sg_un h).1]; decide), if_pos h]
theorem do_no {env : Int32 → Int32} {o : Int32} {st : List Int32} (h1 : lw_bin o = false) (h2 : lw_un o = false) : lw_do env st o = env o :: st := by
  unfold lw_do; rw [if_neg (by rw [h1]; decide), if_neg (by rw [h2]; decide)]
/-- what a sign wants lies there, and how much lies there behind it -/
theorem dep_cons {env : Int32 → Int32} {o : Int32} {r : List Int32} {st : List Int32} {d : Nat} (h : lw_dep (o :: r) st.length = some d) : (lw_bin o = true → ∃ b a s, st = b :: a :: s) ∧ (lw_un o = true → ∃ b s, st = b :: s) ∧ lw_dep r (lw_do env st o).length = some d ∧ (lw_do env st o).length ≤ st.length + 1 := by
  unfold lw_dep at h
  by_cases h1 : lw_bin o = true
  · rw [if_pos h1] at h
    have hu : lw_un o = false := by
      cases hu : lw_un o with
      | false => rfl
      | true => rw [(sg_un hu).1] at h1; cases h1
    match st, h with
    | [], h => simp at h
    | [x], h => simp at h
    | b :: a :: s, h =>
      rw [if_neg (by simp)] at h
      rw [do_bin h1]
      exact ⟨fun _ => ⟨b, a, s, rfl⟩, fun z => (by rw [hu] at z; cases z), h, by simp⟩
  · rw [if_neg h1] at h
    have hb : lw_bin o = false := by simpa using h1
    by_cases h2 : lw_un o = true
    · rw [if_pos h2] at h
      match st, h with
      | [], h => simp at h
      | b :: s, h =>
        rw [if_neg (by simp)] at h
        rw [do_un h2]
        exact ⟨fun z => (by rw [hb] at z; cases z), fun _ => ⟨b, s, rfl⟩, h, by simp⟩
    · rw [if_neg h2] at h
      have hu : lw_un o = false := by simpa using h2
      rw [do_no hb hu]
      exact ⟨fun z => (by rw [hb] at z; cases z), fun z => (by rw [hu] at z; cases z), h, by simp⟩
theorem cl_step {p n k len fu : Nat} {st : List Int32} {f code : Nat → Int32} {o : Int32} (hp : p < 1024) (hk : k < len) (hlen : len ≤ 256) (hc : code k = o) (ho : lw_sign o) (hs : st_ok f st) (hd : st.length < 200) (h1 : lw_bin o = true → ∃ b a s, st = b :: a :: s) (h2 : lw_un o = true → ∃ b s, st = b :: s) : ∃ f', f_La_valueOf_L10 (fu + 1) (nI p) (nI n) true (nI k) (nI len) (nI st.length) code f = f_La_valueOf_L10 fu (nI p) (nI n) true (nI (k + 1)) (nI len) (nI (lw_do (lw_env n p) st o).length) code f' ∧ st_ok f' (lw_do (lw_env n p) st o) := by
  cases hb : lw_bin o with
  | true =>
    obtain ⟨b, a, s, rfl⟩ := h1 hb
    obtain ⟨g1, g2, g3, g4⟩ := sg_bin hb
    have g5 := la_two hb
    obtain ⟨q1, q2, q3⟩ := hs
    have q1' : f (s.length + 1) = b := q1
    have hd' : s.length + 1 + 1 < 200 := hd
    rw [do_bin hb]
    refine ⟨upd f s.length (lw_two o a b), ?_, st_push _ q3⟩
    rw [f_La_valueOf_L10]
    simp (disch := omega) only [n_lt, n_le, n_eq, n_cl, n_sub, nI_add, pk_mul, n_subL, n_Lsub, n_neN, n_Nne, n_leN, n_ltN, n_Nlt, n_Nle, le_T, le_F, lt_T, lt_F, eq_T, eq_F, true_or, or_true, false_or, or_false, true_and, and_true, false_and, and_false, and_self, or_self, not_true_eq_false, not_false_eq_true, decide_eq_true_eq, decide_true, decide_false, Bool.false_eq_true, Bool.true_eq_false, eq_self, ↓reduceIte, Option.bind_some, mo_in, lit_0, lit_1, lit_2, lit_3, lit_4, lit_5, lit_6, lit_7, lit_8, lit_9, lit_10, lit_11, lit_12, lit_13, lit_14, lit_15, lit_16, lit_20, lit_22, lit_24, lit_28, lit_30, lit_31, lit_32, lit_39, lit_40, lit_42, lit_48, lit_50, lit_57, lit_60, lit_61, lit_62, lit_63, lit_64, lit_100, lit_120, lit_121, lit_122, lit_128, lit_130, lit_255, lit_256, lit_360, lit_1024, lit_2147483647, m1_pred, Nat.add_sub_cancel, lit_124, lit_38, lit_37, lit_33, lit_126, lit_59, lit_112, lit_108, lit_110, lit_104, lit_47, lit_43, lit_45, lit_41, lit_123, lit_49, lit_58, lit_68, hc, g1, g2, g3, g4, g5, f_La_valueOf_L52, f_La_valueOf_L91, f_La_valueOf_L111, f_La_valueOf_L129, f_La_valueOf_L159, f_La_valueOf_L162, f_La_pop, f_La_push, List.length_cons, q1', q2]
  | false =>
    cases hu : lw_un o with
    | true =>
      obtain ⟨b, s, rfl⟩ := h2 hu
      obtain ⟨g0, g1, g2, g3, g4⟩ := sg_un hu
      have g5 := la_one hu
      obtain ⟨q1, q2⟩ := hs
      have hd' : s.length + 1 < 200 := hd
      rw [do_un hu]
      refine ⟨upd f s.length (lw_one o b), ?_, st_push _ q2⟩
      rw [f_La_valueOf_L10]
      simp (disch := omega) only [n_lt, n_le, n_eq, n_cl, n_sub, nI_add, pk_mul, n_subL, n_Lsub, n_neN, n_Nne, n_leN, n_ltN, n_Nlt, n_Nle, le_T, le_F, lt_T, lt_F, eq_T, eq_F, true_or, or_true, false_or, or_false, true_and, and_true, false_and, and_false, and_self, or_self, not_true_eq_false, not_false_eq_true, decide_eq_true_eq, decide_true, decide_false, Bool.false_eq_true, Bool.true_eq_false, eq_self, ↓reduceIte, Option.bind_some, mo_in, lit_0, lit_1, lit_2, lit_3, lit_4, lit_5, lit_6, lit_7, lit_8, lit_9, lit_10, lit_11, lit_12, lit_13, lit_14, lit_15, lit_16, lit_20, lit_22, lit_24, lit_28, lit_30, lit_31, lit_32, lit_39, lit_40, lit_42, lit_48, lit_50, lit_57, lit_60, lit_61, lit_62, lit_63, lit_64, lit_100, lit_120, lit_121, lit_122, lit_128, lit_130, lit_255, lit_256, lit_360, lit_1024, lit_2147483647, m1_pred, Nat.add_sub_cancel, lit_124, lit_38, lit_37, lit_33, lit_126, lit_59, lit_112, lit_108, lit_110, lit_104, lit_47, lit_43, lit_45, lit_41, lit_123, lit_49, lit_58, lit_68, hc, g1, g2, g3, g4, g5, f_La_valueOf_L52, f_La_valueOf_L91, f_La_valueOf_L111, f_La_valueOf_L129, f_La_valueOf_L159, f_La_valueOf_L162, f_La_pop, f_La_push, List.length_cons, q1]
    | false =>
      obtain ⟨g1, g2, g3, g4, g5⟩ := sg_no ho hb hu hp n
      rw [do_no hb hu]
      refine ⟨upd f st.length (lw_env n p o), ?_, st_push _ hs⟩
      rw [f_La_valueOf_L10]
      simp (disch := omega) only [n_lt, n_le, n_eq, n_cl, n_sub, nI_add, pk_mul, n_subL, n_Lsub, n_neN, n_Nne, n_leN, n_ltN, n_Nlt, n_Nle, le_T, le_F, lt_T, lt_F, eq_T, eq_F, true_or, or_true, false_or, or_false, true_and, and_true, false_and, and_false, and_self, or_self, not_true_eq_false, not_false_eq_true, decide_eq_true_eq, decide_true, decide_false, Bool.false_eq_true, Bool.true_eq_false, eq_self, ↓reduceIte, Option.bind_some, mo_in, lit_0, lit_1, lit_2, lit_3, lit_4, lit_5, lit_6, lit_7, lit_8, lit_9, lit_10, lit_11, lit_12, lit_13, lit_14, lit_15, lit_16, lit_20, lit_22, lit_24, lit_28, lit_30, lit_31, lit_32, lit_39, lit_40, lit_42, lit_48, lit_50, lit_57, lit_60, lit_61, lit_62, lit_63, lit_64, lit_100, lit_120, lit_121, lit_122, lit_128, lit_130, lit_255, lit_256, lit_360, lit_1024, lit_2147483647, m1_pred, Nat.add_sub_cancel, lit_124, lit_38, lit_37, lit_33, lit_126, lit_59, lit_112, lit_108, lit_110, lit_104, lit_47, lit_43, lit_45, lit_41, lit_123, lit_49, lit_58, lit_68, hc, g1, g2, g3, g4, g5, f_La_valueOf_L52, f_La_valueOf_L91, f_La_valueOf_L111, f_La_valueOf_L129, f_La_valueOf_L159, f_La_valueOf_L162, f_La_push, List.length_cons]
theorem cl_run {p n len : Nat} {code : Nat → Int32} (hp : p < 1024) (hlen : len ≤ 256) : ∀ (e : List Int32) (st : List Int32) (k fu d : Nat) (f : Nat → Int32), lw_dep e st.length = some d → (∀ o ∈ e, lw_sign o) → (∀ j o, e[j]? = some o → code (k + j) = o) → st.length + e.length < 200 → k + e.length ≤ len → st_ok f st → ∃ f', f_La_valueOf_L10 (fu + e.length) (nI p) (nI n) true (nI k) (nI len) (nI st.length) code f = f_La_valueOf_L10 fu (nI p) (nI n) true (nI (k + e.length)) (nI len) (nI d) code f' ∧ st_ok f' (e.foldl (lw_do (lw_env n p)) st) ∧ (e.foldl (lw_do (lw_env n p)) st).length = d := by
  intro e
  induction e with
  | nil =>
    intro st k fu d f h1 h2 h3 h4 h5 h6
    have e1 : st.length = d := Option.some.inj h1
    subst e1
    exact ⟨f, rfl, h6, rfl⟩
  | cons o r ih =>
    intro st k fu d f h1 h2 h3 h4 h5 h6
    obtain ⟨b1, b2, b3, b4⟩ := dep_cons (env := lw_env n p) h1
    have h4' : st.length + (r.length + 1) < 200 := h4
    have h5' : k + (r.length + 1) ≤ len := h5
    obtain ⟨f1, c1, c2⟩ := cl_step (n := n) (fu := fu + r.length) hp (show k < len by omega) hlen (h3 0 o rfl) (h2 o List.mem_cons_self) h6 (by omega) b1 b2
    obtain ⟨f2, c3, c4, c5⟩ := ih (lw_do (lw_env n p) st o) (k + 1) fu d f1 b3 (fun o' ho' => h2 o' (List.mem_cons_of_mem _ ho')) (fun j o' hj => by rw [show k + 1 + j = k + (j + 1) by omega]; exact h3 (j + 1) o' hj) (by omega) (by omega) c2
    refine ⟨f2, ?_, c4, c5⟩
    rw [show fu + (o :: r).length = fu + r.length + 1 from rfl, c1, c3, show k + (o :: r).length = k + 1 + r.length by rw [List.length_cons]; omega]
theorem cl_skip {p n len : Nat} {code : Nat → Int32} (hlen : len ≤ 256) (top : Int32) (f : Nat → Int32) : ∀ (e : List Int32) (k fu : Nat), (∀ o ∈ e, (o = -nI 59) = False) → (∀ j o, e[j]? = some o → code (k + j) = o) → k + e.length ≤ len → f_La_valueOf_L10 (fu + e.length) (nI p) (nI n) false (nI k) (nI len) top code f = f_La_valueOf_L10 fu (nI p) (nI n) false (nI (k + e.length)) (nI len) top code f := by
  intro e
  induction e with
  | nil => intro k fu h2 h3 h5; rfl
  | cons o r ih =>
    intro k fu h2 h3 h5
    have h5' : k + (r.length + 1) ≤ len := h5
    have g3 := h2 o List.mem_cons_self
    have hc : code k = o := h3 0 o rfl
    have c3 := ih (k + 1) fu (fun o' ho' => h2 o' (List.mem_cons_of_mem _ ho')) (fun j o' hj => by rw [show k + 1 + j = k + (j + 1) by omega]; exact h3 (j + 1) o' hj) (by omega)
    rw [show fu + (o :: r).length = fu + r.length + 1 from rfl, show k + (o :: r).length = k + 1 + r.length by rw [List.length_cons]; omega, ← c3]
    rw [f_La_valueOf_L10]
    by_cases h63 : o = -nI 63
    · have h63 : (o = -nI 63) = True := eq_true h63
      simp (disch := omega) only [n_lt, n_le, n_eq, n_cl, n_sub, nI_add, pk_mul, n_subL, n_Lsub, n_neN, n_Nne, n_leN, n_ltN, n_Nlt, n_Nle, le_T, le_F, lt_T, lt_F, eq_T, eq_F, true_or, or_true, false_or, or_false, true_and, and_true, false_and, and_false, and_self, or_self, not_true_eq_false, not_false_eq_true, decide_eq_true_eq, decide_true, decide_false, Bool.false_eq_true, Bool.true_eq_false, eq_self, ↓reduceIte, Option.bind_some, mo_in, lit_0, lit_1, lit_2, lit_3, lit_4, lit_5, lit_6, lit_7, lit_8, lit_9, lit_10, lit_11, lit_12, lit_13, lit_14, lit_15, lit_16, lit_20, lit_22, lit_24, lit_28, lit_30, lit_31, lit_32, lit_39, lit_40, lit_42, lit_48, lit_50, lit_57, lit_60, lit_61, lit_62, lit_63, lit_64, lit_100, lit_120, lit_121, lit_122, lit_128, lit_130, lit_255, lit_256, lit_360, lit_1024, lit_2147483647, m1_pred, Nat.add_sub_cancel, lit_124, lit_38, lit_37, lit_33, lit_126, lit_59, lit_112, lit_108, lit_110, lit_104, lit_47, lit_43, lit_45, lit_41, lit_123, lit_49, lit_58, lit_68, hc, g3, h63, f_La_valueOf_L52, f_La_valueOf_L91, f_La_valueOf_L162, ite_self]
    · simp (disch := omega) only [n_lt, n_le, n_eq, n_cl, n_sub, nI_add, pk_mul, n_subL, n_Lsub, n_neN, n_Nne, n_leN, n_ltN, n_Nlt, n_Nle, le_T, le_F, lt_T, lt_F, eq_T, eq_F, true_or, or_true, false_or, or_false, true_and, and_true, false_and, and_false, and_self, or_self, not_true_eq_false, not_false_eq_true, decide_eq_true_eq, decide_true, decide_false, Bool.false_eq_true, Bool.true_eq_false, eq_self, ↓reduceIte, Option.bind_some, mo_in, lit_0, lit_1, lit_2, lit_3, lit_4, lit_5, lit_6, lit_7, lit_8, lit_9, lit_10, lit_11, lit_12, lit_13, lit_14, lit_15, lit_16, lit_20, lit_22, lit_24, lit_28, lit_30, lit_31, lit_32, lit_39, lit_40, lit_42, lit_48, lit_50, lit_57, lit_60, lit_61, lit_62, lit_63, lit_64, lit_100, lit_120, lit_121, lit_122, lit_128, lit_130, lit_255, lit_256, lit_360, lit_1024, lit_2147483647, m1_pred, Nat.add_sub_cancel, lit_124, lit_38, lit_37, lit_33, lit_126, lit_59, lit_112, lit_108, lit_110, lit_104, lit_47, lit_43, lit_45, lit_41, lit_123, lit_49, lit_58, lit_68, hc, g3, h63, f_La_valueOf_L52, f_La_valueOf_L91, f_La_valueOf_L162, ite_self]
