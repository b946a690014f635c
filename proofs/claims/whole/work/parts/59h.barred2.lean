/-! PURE: what is barred, both sides -/
theorem n_shr {n h : Nat} (hn : n < 2147483648) (hh : h < 31) : nI n >>> (nI h &&& nI 31) = nI (n / 2 ^ h) := pk_shrN hn _ h (sm_sh h hh)
def lw_S (lines : List (List Int32 × List Int32)) (code : Nat → Int32) (len : Int32) (hasLaw : Bool) (act with_ lineMany testEnd lineEnd : Nat → Int32) : Prop :=
  (∀ q ∈ lines, lw_okL q) ∧ (hasLaw = false → lines = []) ∧ (lw_enc lines).length ≤ 256 ∧ (lw_ops lines).length ≤ 130 ∧ lines.length ≤ 61 ∧
    len = nI (lw_enc lines).length ∧ (∀ j o, (lw_enc lines)[j]? = some o → code j = o) ∧
    lineMany 0 = nI lines.length ∧ (∀ j o, (lw_ops lines)[j]? = some o → act j = (lw_alike o).1 ∧ with_ j = (lw_alike o).2) ∧ (∀ i q, (lw_ends lines 0)[i]? = some q → testEnd i = nI q.1 ∧ lineEnd i = nI q.2)
def lw_C (lines : List (List Int32 × List Int32)) (a : Int32) (asked forb : Nat → Int64) : Prop :=
  ∃ n : Nat, n ≤ 10 ∧ a = nI n ∧ ∀ q, q < 1024 → bitw asked q = true → bitw forb q = decide (lw_lines (lw_env n q) lines ≠ 0)
theorem R_lw_of {a len : Int32} {asked forb : Nat → Int64} {code act with_ lineMany testEnd lineEnd : Nat → Int32} {hasLaw : Bool} : R_lw a asked forb code len hasLaw act with_ lineMany testEnd lineEnd ↔ ∃ lines, lw_S lines code len hasLaw act with_ lineMany testEnd lineEnd ∧ lw_C lines a asked forb := by
  constructor
  · rintro ⟨l, a1, a2, a3, a4, a5, a6, a7, a8, a9, a10, a11⟩
    exact ⟨l, ⟨a1, a2, a3, a4, a5, a6, a7, a8, a9, a10⟩, a11⟩
  · rintro ⟨l, ⟨a1, a2, a3, a4, a5, a6, a7, a8, a9, a10⟩, a11⟩
    exact ⟨l, a1, a2, a3, a4, a5, a6, a7, a8, a9, a10, a11⟩
theorem mo_gives_all {p n N : Nat} {act with_ facts lineMany testEnd lineEnd : Nat → Int32} (hp : p < 1024) (g0 : facts 0 = nI p) (g1 : facts 1 = nI (lw_bits p 10)) (g2 : facts 2 = nI n) (g3 : facts 3 = nI (lw_hi p)) (hN : N ≤ 61) (hm : lineMany 0 = nI N) : ∀ (lines : List (List Int32 × List Int32)) (i k fu : Nat) (pile : Nat → Int32), (∀ q ∈ lines, lw_okL q) → (∀ j o, (lw_ops lines)[j]? = some o → act (k + j) = (lw_alike o).1 ∧ with_ (k + j) = (lw_alike o).2) → (∀ j q, (lw_ends lines k)[j]? = some q → testEnd (i + j) = nI q.1 ∧ lineEnd (i + j) = nI q.2) → i + lines.length = N → k + (lw_ops lines).length ≤ 130 → lines.length < fu → ∃ pile', f_Mo_gives_L7 fu (nI 0) (nI k) (nI i) lineMany testEnd act pile with_ facts lineEnd = some (lw_lines (lw_env n p) lines, pile') := by
  intro lines
  induction lines with
  | nil =>
    intro i k fu pile h1 h2 h3 h4 h5 h6
    obtain ⟨m, rfl⟩ : ∃ m, fu = m + 1 := ⟨fu - 1, by omega⟩
    have h4' : i + 0 = N := h4
    refine ⟨pile, ?_⟩
    rw [f_Mo_gives_L7]
    simp (disch := omega) only [n_lt, n_le, n_eq, n_cl, n_sub, nI_add, pk_mul, n_subL, n_Lsub, n_neN, n_Nne, n_leN, n_ltN, n_Nlt, n_Nle, le_T, le_F, lt_T, lt_F, eq_T, eq_F, true_or, or_true, false_or, or_false, true_and, and_true, false_and, and_false, and_self, or_self, not_true_eq_false, not_false_eq_true, decide_eq_true_eq, decide_true, decide_false, Bool.false_eq_true, Bool.true_eq_false, eq_self, ↓reduceIte, Option.bind_some, mo_in, lit_0, lit_1, lit_2, lit_3, lit_4, lit_5, lit_6, lit_7, lit_8, lit_9, lit_10, lit_11, lit_12, lit_13, lit_14, lit_15, lit_16, lit_20, lit_22, lit_24, lit_28, lit_30, lit_31, lit_32, lit_39, lit_40, lit_42, lit_48, lit_50, lit_57, lit_60, lit_61, lit_62, lit_63, lit_64, lit_100, lit_120, lit_121, lit_122, lit_128, lit_130, lit_255, lit_256, lit_360, lit_1024, lit_2147483647, m1_pred, Nat.add_sub_cancel, lit_124, lit_38, lit_37, lit_33, lit_126, lit_59, lit_112, lit_108, lit_110, lit_104, lit_47, lit_43, lit_45, lit_41, lit_123, lit_49, lit_58, lit_68, hm]
    rfl
  | cons q r ih =>
    obtain ⟨t, b⟩ := q
    intro i k fu pile h1 h2 h3 h4 h5 h6
    obtain ⟨ht, hb⟩ := h1 (t, b) List.mem_cons_self
    have hb' : lw_okE b := hb
    have hr : ∀ q ∈ r, lw_okL q := fun q hq => h1 q (List.mem_cons_of_mem _ hq)
    have h4' : i + (r.length + 1) = N := h4
    have h6' : r.length + 1 < fu := h6
    have h5' : k + (t.length + (b.length + (lw_ops r).length)) ≤ 130 := by simpa [lw_ops, Nat.add_assoc] using h5
    obtain ⟨m, rfl⟩ : ∃ m, fu = m + 1 := ⟨fu - 1, by omega⟩
    have e0 : lw_ops ((t, b) :: r) = t ++ (b ++ lw_ops r) := by simp [lw_ops]
    obtain ⟨e1, e2⟩ := h3 0 (k + t.length, k + t.length + b.length) rfl
    have e1 : testEnd i = nI (k + t.length) := e1
    have e2 : lineEnd i = nI (k + t.length + b.length) := e2
    have hbx : ∀ j o, b[j]? = some o → act (k + t.length + j) = (lw_alike o).1 ∧ with_ (k + t.length + j) = (lw_alike o).2 := fun j o hj => by
      have hl := (List.getElem?_eq_some_iff.mp hj).1
      rw [Nat.add_assoc]
      apply h2
      rw [e0, List.getElem?_append_right (by omega), show t.length + j - t.length = j by omega, List.getElem?_append_left hl]
      exact hj
    by_cases h0 : t = []
    · subst h0
      obtain ⟨pile', c1⟩ := mo_worked (pile := pile) (n := n) hp g0 g1 g2 g3 hb' hbx (by simp; simp at h5'; omega)
      refine ⟨pile', ?_⟩
      rw [f_Mo_gives_L7]
      simp (disch := omega) only [n_lt, n_le, n_eq, n_cl, n_sub, nI_add, pk_mul, n_subL, n_Lsub, n_neN, n_Nne, n_leN, n_ltN, n_Nlt, n_Nle, le_T, le_F, lt_T, lt_F, eq_T, eq_F, true_or, or_true, false_or, or_false, true_and, and_true, false_and, and_false, and_self, or_self, not_true_eq_false, not_false_eq_true, decide_eq_true_eq, decide_true, decide_false, Bool.false_eq_true, Bool.true_eq_false, eq_self, ↓reduceIte, Option.bind_some, mo_in, lit_0, lit_1, lit_2, lit_3, lit_4, lit_5, lit_6, lit_7, lit_8, lit_9, lit_10, lit_11, lit_12, lit_13, lit_14, lit_15, lit_16, lit_20, lit_22, lit_24, lit_28, lit_30, lit_31, lit_32, lit_39, lit_40, lit_42, lit_48, lit_50, lit_57, lit_60, lit_61, lit_62, lit_63, lit_64, lit_100, lit_120, lit_121, lit_122, lit_128, lit_130, lit_255, lit_256, lit_360, lit_1024, lit_2147483647, m1_pred, Nat.add_sub_cancel, lit_124, lit_38, lit_37, lit_33, lit_126, lit_59, lit_112, lit_108, lit_110, lit_104, lit_47, lit_43, lit_45, lit_41, lit_123, lit_49, lit_58, lit_68, hm, e1, e2, f_Mo_gives_L47, c1, List.length_nil, Nat.add_zero]
      simp only [List.length_nil, Nat.add_zero] at c1
      rw [c1]
      simp [lw_lines]
    · have ht' : lw_okE t := by
        rcases ht with h | h
        · exact absurd h h0
        · exact h
      have htl : 1 ≤ t.length := by
        cases t with
        | nil => exact absurd rfl h0
        | cons x y => simp
      obtain ⟨pile1, c1⟩ := mo_worked (pile := pile) (n := n) (k := k) hp g0 g1 g2 g3 ht' (fun j o hj => h2 j o (by rw [e0, List.getElem?_append_left (List.getElem?_eq_some_iff.mp hj).1]; exact hj)) (by omega)
      by_cases hv : lw_val (lw_env n p) t = nI 0
      · obtain ⟨pile', c2⟩ := ih (i + 1) (k + t.length + b.length) m pile1 hr (fun j o hj => by
          rw [show k + t.length + b.length + j = k + (t.length + b.length + j) by omega]
          apply h2
          rw [e0, List.getElem?_append_right (by omega), show t.length + b.length + j - t.length = b.length + j by omega, List.getElem?_append_right (by omega), show b.length + j - b.length = j by omega]
          exact hj) (fun j q hj => by
          rw [show i + 1 + j = i + (j + 1) by omega]
          exact h3 (j + 1) q hj) (by omega) (by omega) (by omega)
        refine ⟨pile', ?_⟩
        rw [f_Mo_gives_L7]
        simp (disch := omega) only [n_lt, n_le, n_eq, n_cl, n_sub, nI_add, pk_mul, n_subL, n_Lsub, n_neN, n_Nne, n_leN, n_ltN, n_Nlt, n_Nle, le_T, le_F, lt_T, lt_F, eq_T, eq_F, true_or, or_true, false_or, or_false, true_and, and_true, false_and, and_false, and_self, or_self, not_true_eq_false, not_false_eq_true, decide_eq_true_eq, decide_true, decide_false, Bool.false_eq_true, Bool.true_eq_false, eq_self, ↓reduceIte, Option.bind_some, mo_in, lit_0, lit_1, lit_2, lit_3, lit_4, lit_5, lit_6, lit_7, lit_8, lit_9, lit_10, lit_11, lit_12, lit_13, lit_14, lit_15, lit_16, lit_20, lit_22, lit_24, lit_28, lit_30, lit_31, lit_32, lit_39, lit_40, lit_42, lit_48, lit_50, lit_57, lit_60, lit_61, lit_62, lit_63, lit_64, lit_100, lit_120, lit_121, lit_122, lit_128, lit_130, lit_255, lit_256, lit_360, lit_1024, lit_2147483647, m1_pred, Nat.add_sub_cancel, lit_124, lit_38, lit_37, lit_33, lit_126, lit_59, lit_112, lit_108, lit_110, lit_104, lit_47, lit_43, lit_45, lit_41, lit_123, lit_49, lit_58, lit_68, hm, e1, e2, c1, hv]
        rw [c2]
        have hz : lw_val (lw_env n p) t = 0 := hv
        simp [lw_lines, h0, hz]
      · obtain ⟨pile', c2⟩ := mo_worked (pile := pile1) (n := n) hp g0 g1 g2 g3 hb' hbx (by omega)
        refine ⟨pile', ?_⟩
        rw [f_Mo_gives_L7]
        simp (disch := omega) only [n_lt, n_le, n_eq, n_cl, n_sub, nI_add, pk_mul, n_subL, n_Lsub, n_neN, n_Nne, n_leN, n_ltN, n_Nlt, n_Nle, le_T, le_F, lt_T, lt_F, eq_T, eq_F, true_or, or_true, false_or, or_false, true_and, and_true, false_and, and_false, and_self, or_self, not_true_eq_false, not_false_eq_true, decide_eq_true_eq, decide_true, decide_false, Bool.false_eq_true, Bool.true_eq_false, eq_self, ↓reduceIte, Option.bind_some, mo_in, lit_0, lit_1, lit_2, lit_3, lit_4, lit_5, lit_6, lit_7, lit_8, lit_9, lit_10, lit_11, lit_12, lit_13, lit_14, lit_15, lit_16, lit_20, lit_22, lit_24, lit_28, lit_30, lit_31, lit_32, lit_39, lit_40, lit_42, lit_48, lit_50, lit_57, lit_60, lit_61, lit_62, lit_63, lit_64, lit_100, lit_120, lit_121, lit_122, lit_128, lit_130, lit_255, lit_256, lit_360, lit_1024, lit_2147483647, m1_pred, Nat.add_sub_cancel, lit_124, lit_38, lit_37, lit_33, lit_126, lit_59, lit_112, lit_108, lit_110, lit_104, lit_47, lit_43, lit_45, lit_41, lit_123, lit_49, lit_58, lit_68, hm, e1, e2, c1, hv, f_Mo_gives_L47, c2]
        have hz : ¬ lw_val (lw_env n p) t = 0 := hv
        simp [lw_lines, h0, hz]
theorem mo_barred {lines : List (List Int32 × List Int32)} {code act with_ lineMany testEnd lineEnd : Nat → Int32} {len : Int32} {hasLaw : Bool} (hS : lw_S lines code len hasLaw act with_ lineMany testEnd lineEnd) {p n : Nat} (hp : p < 1024) {told : Nat → Int64} {mtold : Nat → Int32} (hT : ∀ q, q < 1024 → mtold q = b2i (bitw told q)) (facts pile : Nat → Int32) : ∃ facts' pile', f_Mo_isBarred (nI p) (nI n) hasLaw mtold facts lineMany testEnd act pile with_ lineEnd = some (bitw told p || decide (lw_lines (lw_env n p) lines ≠ 0), facts', pile') := by
  obtain ⟨a1, a2, a3, a4, a5, a6, a7, a8, a9, a10⟩ := hS
  have e1 := hT p hp
  cases hb : bitw told p with
  | true =>
    rw [hb] at e1
    have e2 : mtold p = nI 1 := e1
    refine ⟨facts, pile, ?_⟩
    simp (disch := omega) only [n_lt, n_le, n_eq, n_cl, n_sub, nI_add, pk_mul, n_subL, n_Lsub, n_neN, n_Nne, n_leN, n_ltN, n_Nlt, n_Nle, le_T, le_F, lt_T, lt_F, eq_T, eq_F, true_or, or_true, false_or, or_false, true_and, and_true, false_and, and_false, and_self, or_self, not_true_eq_false, not_false_eq_true, decide_eq_true_eq, decide_true, decide_false, Bool.false_eq_true, Bool.true_eq_false, eq_self, ↓reduceIte, Option.bind_some, mo_in, lit_0, lit_1, lit_2, lit_3, lit_4, lit_5, lit_6, lit_7, lit_8, lit_9, lit_10, lit_11, lit_12, lit_13, lit_14, lit_15, lit_16, lit_20, lit_22, lit_24, lit_28, lit_30, lit_31, lit_32, lit_39, lit_40, lit_42, lit_48, lit_50, lit_57, lit_60, lit_61, lit_62, lit_63, lit_64, lit_100, lit_120, lit_121, lit_122, lit_128, lit_130, lit_255, lit_256, lit_360, lit_1024, lit_2147483647, m1_pred, Nat.add_sub_cancel, lit_124, lit_38, lit_37, lit_33, lit_126, lit_59, lit_112, lit_108, lit_110, lit_104, lit_47, lit_43, lit_45, lit_41, lit_123, lit_49, lit_58, lit_68, f_Mo_isBarred, e2, Bool.true_or]
  | false =>
    rw [hb] at e1
    have e2 : mtold p = nI 0 := e1
    cases hl : hasLaw with
    | false =>
      refine ⟨facts, pile, ?_⟩
      rw [a2 hl]
      simp (disch := omega) only [n_lt, n_le, n_eq, n_cl, n_sub, nI_add, pk_mul, n_subL, n_Lsub, n_neN, n_Nne, n_leN, n_ltN, n_Nlt, n_Nle, le_T, le_F, lt_T, lt_F, eq_T, eq_F, true_or, or_true, false_or, or_false, true_and, and_true, false_and, and_false, and_self, or_self, not_true_eq_false, not_false_eq_true, decide_eq_true_eq, decide_true, decide_false, Bool.false_eq_true, Bool.true_eq_false, eq_self, ↓reduceIte, Option.bind_some, mo_in, lit_0, lit_1, lit_2, lit_3, lit_4, lit_5, lit_6, lit_7, lit_8, lit_9, lit_10, lit_11, lit_12, lit_13, lit_14, lit_15, lit_16, lit_20, lit_22, lit_24, lit_28, lit_30, lit_31, lit_32, lit_39, lit_40, lit_42, lit_48, lit_50, lit_57, lit_60, lit_61, lit_62, lit_63, lit_64, lit_100, lit_120, lit_121, lit_122, lit_128, lit_130, lit_255, lit_256, lit_360, lit_1024, lit_2147483647, m1_pred, Nat.add_sub_cancel, lit_124, lit_38, lit_37, lit_33, lit_126, lit_59, lit_112, lit_108, lit_110, lit_104, lit_47, lit_43, lit_45, lit_41, lit_123, lit_49, lit_58, lit_68, f_Mo_isBarred, e2, Bool.false_or]
      rfl
    | true =>
      obtain ⟨h10, hsh⟩ := hi_shr p hp
      have hlit := lit_all p hp
      obtain ⟨fx, hfx⟩ : ∃ fx, fx = upd (upd (upd (upd facts 0 (nI p)) 1 (nI (lw_bits p 10))) 2 (nI n)) 3 (nI (lw_hi p)) := ⟨_, rfl⟩
      obtain ⟨pile', c1⟩ := mo_gives_all (n := n) (facts := fx) hp (by rw [hfx]; rfl) (by rw [hfx]; rfl) (by rw [hfx]; rfl) (by rw [hfx]; rfl) a5 a8 lines 0 0 3000 pile a1 (fun j o hj => by rw [Nat.zero_add]; exact a9 j o hj) (fun j q hj => by rw [Nat.zero_add]; exact a10 j q hj) (by omega) (by omega) (by omega)
      have c2 : f_Mo_gives (nI 0) lineMany testEnd act pile with_ fx lineEnd = some (lw_lines (lw_env n p) lines, pile') := c1
      have h : ∀ (e h fu : Nat), h + e = lw_hi p → e < fu → f_Mo_isBarred_L22 fu (nI p) (nI h) (nI n) facts lineMany testEnd act pile with_ lineEnd = some (decide (lw_lines (lw_env n p) lines ≠ 0), fx, pile') := by
        intro e
        induction e with
        | zero =>
          intro h fu hh hfu
          obtain ⟨m, rfl⟩ : ∃ m, fu = m + 1 := ⟨fu - 1, by omega⟩
          have hz : p / 2 ^ h = 0 := (hsh h (by omega)).mpr (by omega)
          have hhe : h = lw_hi p := by omega
          subst hhe
          rw [f_Mo_isBarred_L22]
          by_cases hv : lw_lines (lw_env n p) lines = nI 0
          · simp (disch := omega) only [n_lt, n_le, n_eq, n_cl, n_sub, nI_add, pk_mul, n_subL, n_Lsub, n_neN, n_Nne, n_leN, n_ltN, n_Nlt, n_Nle, le_T, le_F, lt_T, lt_F, eq_T, eq_F, true_or, or_true, false_or, or_false, true_and, and_true, false_and, and_false, and_self, or_self, not_true_eq_false, not_false_eq_true, decide_eq_true_eq, decide_true, decide_false, Bool.false_eq_true, Bool.true_eq_false, eq_self, ↓reduceIte, Option.bind_some, mo_in, lit_0, lit_1, lit_2, lit_3, lit_4, lit_5, lit_6, lit_7, lit_8, lit_9, lit_10, lit_11, lit_12, lit_13, lit_14, lit_15, lit_16, lit_20, lit_22, lit_24, lit_28, lit_30, lit_31, lit_32, lit_39, lit_40, lit_42, lit_48, lit_50, lit_57, lit_60, lit_61, lit_62, lit_63, lit_64, lit_100, lit_120, lit_121, lit_122, lit_128, lit_130, lit_255, lit_256, lit_360, lit_1024, lit_2147483647, m1_pred, Nat.add_sub_cancel, lit_124, lit_38, lit_37, lit_33, lit_126, lit_59, lit_112, lit_108, lit_110, lit_104, lit_47, lit_43, lit_45, lit_41, lit_123, lit_49, lit_58, lit_68, n_shr, hz, hlit, ← hfx, c2, hv]
            simp
          · have hv2 : ¬ lw_lines (lw_env n p) lines = 0 := hv
            simp (disch := omega) only [n_lt, n_le, n_eq, n_cl, n_sub, nI_add, pk_mul, n_subL, n_Lsub, n_neN, n_Nne, n_leN, n_ltN, n_Nlt, n_Nle, le_T, le_F, lt_T, lt_F, eq_T, eq_F, true_or, or_true, false_or, or_false, true_and, and_true, false_and, and_false, and_self, or_self, not_true_eq_false, not_false_eq_true, decide_eq_true_eq, decide_true, decide_false, Bool.false_eq_true, Bool.true_eq_false, eq_self, ↓reduceIte, Option.bind_some, mo_in, lit_0, lit_1, lit_2, lit_3, lit_4, lit_5, lit_6, lit_7, lit_8, lit_9, lit_10, lit_11, lit_12, lit_13, lit_14, lit_15, lit_16, lit_20, lit_22, lit_24, lit_28, lit_30, lit_31, lit_32, lit_39, lit_40, lit_42, lit_48, lit_50, lit_57, lit_60, lit_61, lit_62, lit_63, lit_64, lit_100, lit_120, lit_121, lit_122, lit_128, lit_130, lit_255, lit_256, lit_360, lit_1024, lit_2147483647, m1_pred, Nat.add_sub_cancel, lit_124, lit_38, lit_37, lit_33, lit_126, lit_59, lit_112, lit_108, lit_110, lit_104, lit_47, lit_43, lit_45, lit_41, lit_123, lit_49, lit_58, lit_68, n_shr, hz, hlit, ← hfx, c2, hv]
            simp [hv]
        | succ e ih =>
          intro h fu hh hfu
          obtain ⟨m, rfl⟩ : ∃ m, fu = m + 1 := ⟨fu - 1, by omega⟩
          have hz : ¬ p / 2 ^ h = 0 := fun z => by have := (hsh h (by omega)).mp z; omega
          have hle : p / 2 ^ h ≤ p := Nat.div_le_self _ _
          rw [← ih (h + 1) m (by omega) (by omega), f_Mo_isBarred_L22]
          simp (disch := omega) only [n_lt, n_le, n_eq, n_cl, n_sub, nI_add, pk_mul, n_subL, n_Lsub, n_neN, n_Nne, n_leN, n_ltN, n_Nlt, n_Nle, le_T, le_F, lt_T, lt_F, eq_T, eq_F, true_or, or_true, false_or, or_false, true_and, and_true, false_and, and_false, and_self, or_self, not_true_eq_false, not_false_eq_true, decide_eq_true_eq, decide_true, decide_false, Bool.false_eq_true, Bool.true_eq_false, eq_self, ↓reduceIte, Option.bind_some, mo_in, lit_0, lit_1, lit_2, lit_3, lit_4, lit_5, lit_6, lit_7, lit_8, lit_9, lit_10, lit_11, lit_12, lit_13, lit_14, lit_15, lit_16, lit_20, lit_22, lit_24, lit_28, lit_30, lit_31, lit_32, lit_39, lit_40, lit_42, lit_48, lit_50, lit_57, lit_60, lit_61, lit_62, lit_63, lit_64, lit_100, lit_120, lit_121, lit_122, lit_128, lit_130, lit_255, lit_256, lit_360, lit_1024, lit_2147483647, m1_pred, Nat.add_sub_cancel, lit_124, lit_38, lit_37, lit_33, lit_126, lit_59, lit_112, lit_108, lit_110, lit_104, lit_47, lit_43, lit_45, lit_41, lit_123, lit_49, lit_58, lit_68, n_shr, hz]
      refine ⟨fx, pile', ?_⟩
      have c3 := h (lw_hi p) 0 3000 (by omega) (by omega)
      simp (disch := omega) only [n_lt, n_le, n_eq, n_cl, n_sub, nI_add, pk_mul, n_subL, n_Lsub, n_neN, n_Nne, n_leN, n_ltN, n_Nlt, n_Nle, le_T, le_F, lt_T, lt_F, eq_T, eq_F, true_or, or_true, false_or, or_false, true_and, and_true, false_and, and_false, and_self, or_self, not_true_eq_false, not_false_eq_true, decide_eq_true_eq, decide_true, decide_false, Bool.false_eq_true, Bool.true_eq_false, eq_self, ↓reduceIte, Option.bind_some, mo_in, lit_0, lit_1, lit_2, lit_3, lit_4, lit_5, lit_6, lit_7, lit_8, lit_9, lit_10, lit_11, lit_12, lit_13, lit_14, lit_15, lit_16, lit_20, lit_22, lit_24, lit_28, lit_30, lit_31, lit_32, lit_39, lit_40, lit_42, lit_48, lit_50, lit_57, lit_60, lit_61, lit_62, lit_63, lit_64, lit_100, lit_120, lit_121, lit_122, lit_128, lit_130, lit_255, lit_256, lit_360, lit_1024, lit_2147483647, m1_pred, Nat.add_sub_cancel, lit_124, lit_38, lit_37, lit_33, lit_126, lit_59, lit_112, lit_108, lit_110, lit_104, lit_47, lit_43, lit_45, lit_41, lit_123, lit_49, lit_58, lit_68, f_Mo_isBarred, e2, Bool.false_or, c3]
theorem ru_L26 {lines : List (List Int32 × List Int32)} {code act with_ lineMany testEnd lineEnd : Nat → Int32} {len : Int32} {hasLaw : Bool} (hS : lw_S lines code len hasLaw act with_ lineMany testEnd lineEnd) {p n : Nat} (hp : p < 1024) {asked forb : Nat → Int64} (hC : ∀ q, q < 1024 → bitw asked q = true → bitw forb q = decide (lw_lines (lw_env n q) lines ≠ 0)) (a : Int32) (told : Nat → Int64) (top : Int32) (stack : Nat → Int32) : ∃ asked' forb' top' stack', f_Ru_isBarred_L26 (nI p) (nI n) a asked forb len top code stack told = some (bitw told p || decide (lw_lines (lw_env n p) lines ≠ 0), a, asked', forb', top', stack') ∧ ∀ q, q < 1024 → bitw asked' q = true → bitw forb' q = decide (lw_lines (lw_env n q) lines ≠ 0) := by
  obtain ⟨a1, a2, a3, a4, a5, rfl, a7, a8, a9, a10⟩ := hS
  have fin : ∀ (as fo : Nat → Int64) (tp : Int32) (sk : Nat → Int32), bitw fo p = decide (lw_lines (lw_env n p) lines ≠ 0) → f_Ru_isBarred_L76 (nI p) a as fo tp sk told = some (bitw told p || decide (lw_lines (lw_env n p) lines ≠ 0), a, as, fo, tp, sk) := by
    intro as fo tp sk h
    have e1 := pi_holds hp told
    have e2 := pi_holds hp fo
    rw [h] at e2
    unfold f_Ru_isBarred_L76
    cases hb : bitw told p with
    | true =>
      rw [hb] at e1
      simp only [Option.bind_some, ↓reduceIte, eq_self, Bool.false_eq_true, Bool.true_eq_false, e1, Bool.true_or]
    | false =>
      rw [hb] at e1
      cases hv : decide (lw_lines (lw_env n p) lines ≠ 0) with
      | true =>
        rw [hv] at e2
        simp only [Option.bind_some, ↓reduceIte, eq_self, Bool.false_eq_true, Bool.true_eq_false, e1, e2, Bool.false_or]
      | false =>
        rw [hv] at e2
        simp only [Option.bind_some, ↓reduceIte, eq_self, Bool.false_eq_true, Bool.true_eq_false, e1, e2, Bool.false_or]
  have e1 := pi_holds hp asked
  cases hb : bitw asked p with
  | true =>
    rw [hb] at e1
    refine ⟨asked, forb, top, stack, ?_, hC⟩
    unfold f_Ru_isBarred_L26
    simp only [Option.bind_some, ↓reduceIte, eq_self, Bool.false_eq_true, Bool.true_eq_false, e1]
    exact fin _ _ _ _ (hC p hp hb)
  | false =>
    rw [hb] at e1
    obtain ⟨as, e2, g2⟩ := pi_add hp asked
    obtain ⟨fo, e3, g3⟩ := pi_remove hp forb
    obtain ⟨top', st', e4⟩ := la_value (n := n) hp a1 a7 rfl a3 a4 top stack
    by_cases hv : lw_lines (lw_env n p) lines = 0
    · have hd : decide (lw_lines (lw_env n p) lines ≠ 0) = false := by simp [hv]
      refine ⟨as, fo, top', st', ?_, fun q hq h => ?_⟩
      · have f1 := fin as fo top' st' (by rw [g3, hd]; simp)
        unfold f_Ru_isBarred_L26
        simp only [Option.bind_some, ↓reduceIte, eq_self, Bool.false_eq_true, Bool.true_eq_false, e1, e2, e3, e4]
        rw [if_pos hv]
        exact f1
      · rw [g2] at h
        rw [g3]
        by_cases e : q = p
        · subst e; rw [hd]; simp
        · have h' : bitw asked q = true := by simpa [e] using h
          rw [hC q hq h']; simp [e]
    · have hd : decide (lw_lines (lw_env n p) lines ≠ 0) = true := by simp [hv]
      obtain ⟨fo2, e5, g5⟩ := pi_add hp fo
      refine ⟨as, fo2, top', st', ?_, fun q hq h => ?_⟩
      · have f1 := fin as fo2 top' st' (by rw [g5, hd]; simp)
        unfold f_Ru_isBarred_L26
        simp only [Option.bind_some, ↓reduceIte, eq_self, Bool.false_eq_true, Bool.true_eq_false, e1, e2, e3, e4]
        rw [if_neg hv]
        simp only [Option.bind_some, ↓reduceIte, eq_self, Bool.false_eq_true, Bool.true_eq_false, e5]
        exact f1
      · rw [g2] at h
        rw [g5, g3]
        by_cases e : q = p
        · subst e; rw [hd]; simp
        · have h' : bitw asked q = true := by simpa [e] using h
          rw [hC q hq h']; simp [e]
theorem ru_barred {lines : List (List Int32 × List Int32)} {code act with_ lineMany testEnd lineEnd : Nat → Int32} {len : Int32} {hasLaw : Bool} (hS : lw_S lines code len hasLaw act with_ lineMany testEnd lineEnd) {p n : Nat} (hp : p < 1024) (hn : n ≤ 10) {a : Int32} {asked forb : Nat → Int64} (hC : lw_C lines a asked forb) (told : Nat → Int64) (top : Int32) (stack : Nat → Int32) : ∃ asked' forb' top' stack', f_Ru_isBarred (nI p) (nI n) a asked forb len top code stack told = some (bitw told p || decide (lw_lines (lw_env n p) lines ≠ 0), nI n, asked', forb', top', stack') ∧ lw_C lines (nI n) asked' forb' := by
  obtain ⟨n0, h0, rfl, hC⟩ := hC
  by_cases e : n = n0
  · subst e
    obtain ⟨a', f', t', s', c1, c2⟩ := ru_L26 hS hp hC (nI n) told top stack
    refine ⟨a', f', t', s', ?_, n, hn, rfl, c2⟩
    unfold f_Ru_isBarred
    rw [if_pos rfl]
    exact c1
  · obtain ⟨as0, e1, g1⟩ := pi_empty asked
    obtain ⟨a', f', t', s', c1, c2⟩ := ru_L26 (n := n) (asked := as0) (forb := forb) hS hp (fun q hq h => by rw [g1 q hq] at h; cases h) (nI n) told top stack
    refine ⟨a', f', t', s', ?_, n, hn, rfl, c2⟩
    unfold f_Ru_isBarred
    rw [if_neg (fun z => e ((nI_eq (by omega) (by omega)).mp z)), e1]
    exact c1
