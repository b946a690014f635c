/-! PURE: the lines of a law; what is barred, class and model -/
theorem len_one {st : List Int32} (h : st.length = 1) : ∃ v, st = [v] := by
  match st, h with
  | [v], _ => exact ⟨v, rfl⟩
theorem sign_end {o : Int32} (h : lw_sign o) : (o = -nI 59) = False := by
  cases hb : lw_bin o with
  | true => exact (sg_bin hb).2.2.1
  | false =>
    cases hu : lw_un o with
    | true => exact (sg_un hu).2.2.2.1
    | false => exact (sg_no h hb hu (p := 0) (by omega) 0).2.2.1
/-- the class at the end of what counts in a line: what was worked out -/
theorem cl_body {p n len : Nat} {code : Nat → Int32} (hp : p < 1024) (hlen : len ≤ 256) {b : List Int32} (hb : lw_okE b) {k fu : Nat} {f : Nat → Int32} (hc : ∀ j o, (b ++ [-59])[j]? = some o → code (k + j) = o) (hk : k + b.length < len) (hbl : b.length < 200) : ∃ f', f_La_valueOf_L10 (fu + 1 + b.length) (nI p) (nI n) true (nI k) (nI len) (nI 0) code f = some (lw_val (lw_env n p) b, nI 0, f') := by
  obtain ⟨f1, c1, c2, c3⟩ := cl_run (n := n) (len := len) hp hlen b [] k (fu + 1) 1 f hb.1 hb.2 (fun j o hj => hc j o (by rw [List.getElem?_append_left]; exact hj; exact (List.getElem?_eq_some_iff.mp hj).1)) (by simp; omega) (by omega) trivial
  obtain ⟨v, hv⟩ := len_one c3
  rw [hv] at c2
  have e1 : f1 0 = v := c2.1
  have e2 : code (k + b.length) = -nI 59 := hc b.length (-59) (by simp)
  have e3 : lw_val (lw_env n p) b = v := by unfold lw_val; rw [hv]; rfl
  refine ⟨f1, ?_⟩
  rw [show nI 0 = nI ([] : List Int32).length from rfl, c1, f_La_valueOf_L10]
  simp (disch := omega) only [n_lt, n_le, n_eq, n_cl, n_sub, nI_add, pk_mul, n_subL, n_Lsub, n_neN, n_Nne, n_leN, n_ltN, n_Nlt, n_Nle, le_T, le_F, lt_T, lt_F, eq_T, eq_F, true_or, or_true, false_or, or_false, true_and, and_true, false_and, and_false, and_self, or_self, not_true_eq_false, not_false_eq_true, decide_eq_true_eq, decide_true, decide_false, Bool.false_eq_true, Bool.true_eq_false, eq_self, ↓reduceIte, Option.bind_some, mo_in, lit_0, lit_1, lit_2, lit_3, lit_4, lit_5, lit_6, lit_7, lit_8, lit_9, lit_10, lit_11, lit_12, lit_13, lit_14, lit_15, lit_16, lit_20, lit_22, lit_24, lit_28, lit_30, lit_31, lit_32, lit_39, lit_40, lit_42, lit_48, lit_50, lit_57, lit_60, lit_61, lit_62, lit_63, lit_64, lit_100, lit_120, lit_121, lit_122, lit_128, lit_130, lit_255, lit_256, lit_360, lit_1024, lit_2147483647, m1_pred, Nat.add_sub_cancel, lit_124, lit_38, lit_37, lit_33, lit_126, lit_59, lit_112, lit_108, lit_110, lit_104, lit_47, lit_43, lit_45, lit_41, lit_123, lit_49, lit_58, lit_68, e2, f_La_pop, e1, e3, Nat.reduceSub, List.length_nil]
theorem cl_lines {p n len : Nat} {code : Nat → Int32} (hp : p < 1024) (hlen : len ≤ 256) : ∀ (lines : List (List Int32 × List Int32)) (k fu : Nat) (f : Nat → Int32), (∀ q ∈ lines, lw_okL q) → (∀ j o, (lw_enc lines)[j]? = some o → code (k + j) = o) → k + (lw_enc lines).length = len → (lw_ops lines).length ≤ 130 → (lw_enc lines).length < fu → ∃ top f', f_La_valueOf_L10 fu (nI p) (nI n) true (nI k) (nI len) (nI 0) code f = some (lw_lines (lw_env n p) lines, top, f') := by
  intro lines
  induction lines with
  | nil =>
    intro k fu f h1 h2 h3 h4 h5
    obtain ⟨m, rfl⟩ : ∃ m, fu = m + 1 := ⟨fu - 1, by omega⟩
    have h3' : k + 0 = len := h3
    refine ⟨nI 0, f, ?_⟩
    rw [f_La_valueOf_L10]
    simp (disch := omega) only [n_lt, n_le, n_eq, n_cl, n_sub, nI_add, pk_mul, n_subL, n_Lsub, n_neN, n_Nne, n_leN, n_ltN, n_Nlt, n_Nle, le_T, le_F, lt_T, lt_F, eq_T, eq_F, true_or, or_true, false_or, or_false, true_and, and_true, false_and, and_false, and_self, or_self, not_true_eq_false, not_false_eq_true, decide_eq_true_eq, decide_true, decide_false, Bool.false_eq_true, Bool.true_eq_false, eq_self, ↓reduceIte, Option.bind_some, mo_in, lit_0, lit_1, lit_2, lit_3, lit_4, lit_5, lit_6, lit_7, lit_8, lit_9, lit_10, lit_11, lit_12, lit_13, lit_14, lit_15, lit_16, lit_20, lit_22, lit_24, lit_28, lit_30, lit_31, lit_32, lit_39, lit_40, lit_42, lit_48, lit_50, lit_57, lit_60, lit_61, lit_62, lit_63, lit_64, lit_100, lit_120, lit_121, lit_122, lit_128, lit_130, lit_255, lit_256, lit_360, lit_1024, lit_2147483647, m1_pred, Nat.add_sub_cancel, lit_124, lit_38, lit_37, lit_33, lit_126, lit_59, lit_112, lit_108, lit_110, lit_104, lit_47, lit_43, lit_45, lit_41, lit_123, lit_49, lit_58, lit_68]
    rfl
  | cons q r ih =>
    obtain ⟨t, b⟩ := q
    intro k fu f h1 h2 h3 h4 h5
    obtain ⟨ht, hb⟩ := h1 (t, b) List.mem_cons_self
    have ht : t = [] ∨ lw_okE t := ht
    have hb : lw_okE b := hb
    have hr : ∀ q ∈ r, lw_okL q := fun q hq => h1 q (List.mem_cons_of_mem _ hq)
    have h4' : t.length + b.length + (lw_ops r).length ≤ 130 := by simpa [lw_ops, Nat.add_assoc] using h4
    by_cases h0 : t = []
    · subst h0
      have e0 : lw_enc (([], b) :: r) = b ++ [-59] ++ lw_enc r := by simp [lw_enc]
      have el : (lw_enc (([], b) :: r)).length = b.length + 1 + (lw_enc r).length := by rw [e0]; simp; omega
      rw [el] at h3 h5
      obtain ⟨f', c1⟩ := cl_body (b := b) (n := n) (fu := fu - 1 - b.length) (f := f) hp hlen hb (k := k) (fun j o hj => h2 j o (by rw [e0, List.getElem?_append_left]; exact hj; exact (List.getElem?_eq_some_iff.mp hj).1)) (by omega) (by omega)
      rw [show fu - 1 - b.length + 1 + b.length = fu by omega] at c1
      refine ⟨nI 0, f', ?_⟩
      rw [c1]
      simp [lw_lines]
    · have ht' : lw_okE t := by
        rcases ht with h | h
        · exact absurd h h0
        · exact h
      have e0 : lw_enc ((t, b) :: r) = t ++ (-63 :: (b ++ [-59] ++ lw_enc r)) := by simp [lw_enc, h0]
      have el : (lw_enc ((t, b) :: r)).length = t.length + 1 + b.length + 1 + (lw_enc r).length := by rw [e0]; simp; omega
      rw [el] at h3 h5
      obtain ⟨f1, c1, c2, c3⟩ := cl_run (n := n) (len := len) hp hlen t [] k (fu - t.length) 1 f ht'.1 ht'.2 (fun j o hj => h2 j o (by rw [e0, List.getElem?_append_left]; exact hj; exact (List.getElem?_eq_some_iff.mp hj).1)) (by simp; omega) (by omega) trivial
      rw [show fu - t.length + t.length = fu by omega] at c1
      obtain ⟨v, hv⟩ := len_one c3
      rw [hv] at c2
      have e1 : f1 0 = v := c2.1
      have e2 : code (k + t.length) = -nI 63 := h2 t.length (-63) (by rw [e0]; simp)
      have e3 : lw_val (lw_env n p) t = v := by unfold lw_val; rw [hv]; rfl
      have hcb : ∀ j o, (b ++ [-59])[j]? = some o → code (k + t.length + 1 + j) = o := fun j o hj => by
        have hjl := (List.getElem?_eq_some_iff.mp hj).1
        rw [show k + t.length + 1 + j = k + (t.length + 1 + j) by omega]
        apply h2
        rw [e0, List.getElem?_append_right (by omega), show t.length + 1 + j - t.length = j + 1 by omega, List.getElem?_cons_succ, List.getElem?_append_left hjl]
        exact hj
      obtain ⟨m, hm⟩ : ∃ m, fu - t.length = m + 1 := ⟨fu - t.length - 1, by omega⟩
      have n1 : (-nI 63 = -nI 59) = False := eq_false (by decide)
      by_cases hv0 : v = nI 0
      · -- the test gives 0: what counts is left out
        have c4 : f_La_valueOf_L10 (m + 1) (nI p) (nI n) true (nI (k + t.length)) (nI len) (nI 1) code f1 = f_La_valueOf_L10 m (nI p) (nI n) false (nI (k + t.length + 1)) (nI len) (nI 0) code f1 := by
          rw [f_La_valueOf_L10]
          simp (disch := omega) only [n_lt, n_le, n_eq, n_cl, n_sub, nI_add, pk_mul, n_subL, n_Lsub, n_neN, n_Nne, n_leN, n_ltN, n_Nlt, n_Nle, le_T, le_F, lt_T, lt_F, eq_T, eq_F, true_or, or_true, false_or, or_false, true_and, and_true, false_and, and_false, and_self, or_self, not_true_eq_false, not_false_eq_true, decide_eq_true_eq, decide_true, decide_false, Bool.false_eq_true, Bool.true_eq_false, eq_self, ↓reduceIte, Option.bind_some, mo_in, lit_0, lit_1, lit_2, lit_3, lit_4, lit_5, lit_6, lit_7, lit_8, lit_9, lit_10, lit_11, lit_12, lit_13, lit_14, lit_15, lit_16, lit_20, lit_22, lit_24, lit_28, lit_30, lit_31, lit_32, lit_39, lit_40, lit_42, lit_48, lit_50, lit_57, lit_60, lit_61, lit_62, lit_63, lit_64, lit_100, lit_120, lit_121, lit_122, lit_128, lit_130, lit_255, lit_256, lit_360, lit_1024, lit_2147483647, m1_pred, Nat.add_sub_cancel, lit_124, lit_38, lit_37, lit_33, lit_126, lit_59, lit_112, lit_108, lit_110, lit_104, lit_47, lit_43, lit_45, lit_41, lit_123, lit_49, lit_58, lit_68, e2, n1, f_La_valueOf_L52, f_La_valueOf_L87, f_La_valueOf_L162, f_La_pop, e1, hv0, Nat.reduceSub]
        have c5 := cl_skip (p := p) (n := n) (len := len) (code := code) hlen (nI 0) f1 b (k + t.length + 1) (m - b.length) (fun o ho => sign_end (hb.2 o ho)) (fun j o hj => hcb j o (by rw [List.getElem?_append_left]; exact hj; exact (List.getElem?_eq_some_iff.mp hj).1)) (by omega)
        rw [show m - b.length + b.length = m by omega] at c5
        have e5 : code (k + t.length + 1 + b.length) = -nI 59 := hcb b.length (-59) (by simp)
        obtain ⟨m2, hm2⟩ : ∃ m2, m - b.length = m2 + 1 := ⟨m - b.length - 1, by omega⟩
        have c6 : f_La_valueOf_L10 (m2 + 1) (nI p) (nI n) false (nI (k + t.length + 1 + b.length)) (nI len) (nI 0) code f1 = f_La_valueOf_L10 m2 (nI p) (nI n) true (nI (k + t.length + 1 + b.length + 1)) (nI len) (nI 0) code f1 := by
          rw [f_La_valueOf_L10]
          simp (disch := omega) only [n_lt, n_le, n_eq, n_cl, n_sub, nI_add, pk_mul, n_subL, n_Lsub, n_neN, n_Nne, n_leN, n_ltN, n_Nlt, n_Nle, le_T, le_F, lt_T, lt_F, eq_T, eq_F, true_or, or_true, false_or, or_false, true_and, and_true, false_and, and_false, and_self, or_self, not_true_eq_false, not_false_eq_true, decide_eq_true_eq, decide_true, decide_false, Bool.false_eq_true, Bool.true_eq_false, eq_self, ↓reduceIte, Option.bind_some, mo_in, lit_0, lit_1, lit_2, lit_3, lit_4, lit_5, lit_6, lit_7, lit_8, lit_9, lit_10, lit_11, lit_12, lit_13, lit_14, lit_15, lit_16, lit_20, lit_22, lit_24, lit_28, lit_30, lit_31, lit_32, lit_39, lit_40, lit_42, lit_48, lit_50, lit_57, lit_60, lit_61, lit_62, lit_63, lit_64, lit_100, lit_120, lit_121, lit_122, lit_128, lit_130, lit_255, lit_256, lit_360, lit_1024, lit_2147483647, m1_pred, Nat.add_sub_cancel, lit_124, lit_38, lit_37, lit_33, lit_126, lit_59, lit_112, lit_108, lit_110, lit_104, lit_47, lit_43, lit_45, lit_41, lit_123, lit_49, lit_58, lit_68, e5, f_La_valueOf_L52, f_La_valueOf_L162]
        obtain ⟨top, f', c7⟩ := ih (k + t.length + 1 + b.length + 1) m2 f1 hr (fun j o hj => by
          rw [show k + t.length + 1 + b.length + 1 + j = k + (t.length + 1 + b.length + 1 + j) by omega]
          apply h2
          rw [e0, List.getElem?_append_right (by omega), show t.length + 1 + b.length + 1 + j - t.length = (b.length + 1 + j) + 1 by omega, List.getElem?_cons_succ, List.getElem?_append_right (by simp), show b.length + 1 + j - (b ++ [(-59 : Int32)]).length = j by simp]
          exact hj) (by omega) (by omega) (by omega)
        refine ⟨top, f', ?_⟩
        rw [show nI 0 = nI ([] : List Int32).length from rfl, c1, hm, c4, c5, hm2, c6, c7]
        have hz : lw_val (lw_env n p) t = 0 := e3.trans hv0
        simp [lw_lines, h0, hz]
      · have c4 : f_La_valueOf_L10 (m + 1) (nI p) (nI n) true (nI (k + t.length)) (nI len) (nI 1) code f1 = f_La_valueOf_L10 m (nI p) (nI n) true (nI (k + t.length + 1)) (nI len) (nI 0) code f1 := by
          rw [f_La_valueOf_L10]
          simp (disch := omega) only [n_lt, n_le, n_eq, n_cl, n_sub, nI_add, pk_mul, n_subL, n_Lsub, n_neN, n_Nne, n_leN, n_ltN, n_Nlt, n_Nle, le_T, le_F, lt_T, lt_F, eq_T, eq_F, true_or, or_true, false_or, or_false, true_and, and_true, false_and, and_false, and_self, or_self, not_true_eq_false, not_false_eq_true, decide_eq_true_eq, decide_true, decide_false, Bool.false_eq_true, Bool.true_eq_false, eq_self, ↓reduceIte, Option.bind_some, mo_in, lit_0, lit_1, lit_2, lit_3, lit_4, lit_5, lit_6, lit_7, lit_8, lit_9, lit_10, lit_11, lit_12, lit_13, lit_14, lit_15, lit_16, lit_20, lit_22, lit_24, lit_28, lit_30, lit_31, lit_32, lit_39, lit_40, lit_42, lit_48, lit_50, lit_57, lit_60, lit_61, lit_62, lit_63, lit_64, lit_100, lit_120, lit_121, lit_122, lit_128, lit_130, lit_255, lit_256, lit_360, lit_1024, lit_2147483647, m1_pred, Nat.add_sub_cancel, lit_124, lit_38, lit_37, lit_33, lit_126, lit_59, lit_112, lit_108, lit_110, lit_104, lit_47, lit_43, lit_45, lit_41, lit_123, lit_49, lit_58, lit_68, e2, n1, f_La_valueOf_L52, f_La_valueOf_L87, f_La_valueOf_L162, f_La_pop, e1, hv0, Nat.reduceSub]
        obtain ⟨f', c5⟩ := cl_body (b := b) (n := n) (fu := m - 1 - b.length) (f := f1) hp hlen hb (k := k + t.length + 1) hcb (by omega) (by omega)
        rw [show m - 1 - b.length + 1 + b.length = m by omega] at c5
        refine ⟨nI 0, f', ?_⟩
        rw [show nI 0 = nI ([] : List Int32).length from rfl, c1, hm, c4, c5]
        have hz : ¬ lw_val (lw_env n p) t = 0 := fun z => hv0 (e3.symm.trans z)
        simp [lw_lines, h0, hz]
theorem la_value {p n len : Nat} {code : Nat → Int32} (hp : p < 1024) {lines : List (List Int32 × List Int32)} (h1 : ∀ q ∈ lines, lw_okL q) (h2 : ∀ j o, (lw_enc lines)[j]? = some o → code j = o) (h3 : (lw_enc lines).length = len) (hlen : len ≤ 256) (h4 : (lw_ops lines).length ≤ 130) (top : Int32) (f : Nat → Int32) : ∃ top' f', f_La_valueOf (nI p) (nI n) (nI len) top code f = some (lw_lines (lw_env n p) lines, top', f') := by
  obtain ⟨t', f', c⟩ := cl_lines (n := n) hp hlen lines 0 3000 f h1 (fun j o hj => by rw [Nat.zero_add]; exact h2 j o hj) (by omega) h4 (by omega)
  exact ⟨t', f', c⟩
/-! the model -/
theorem mo_step {p n k en fu : Nat} {st : List Int32} {act with_ pile facts : Nat → Int32} {o : Int32} (hp : p < 1024) (hk : k < en) (hen : en ≤ 130) (ha : act k = (lw_alike o).1) (hw : with_ k = (lw_alike o).2) (g0 : facts 0 = nI p) (g1 : facts 1 = nI (lw_bits p 10)) (g2 : facts 2 = nI n) (g3 : facts 3 = nI (lw_hi p)) (ho : lw_sign o) (hs : st_ok pile st) (hd : st.length < 130) (h1 : lw_bin o = true → ∃ b a s, st = b :: a :: s) (h2 : lw_un o = true → ∃ b s, st = b :: s) : ∃ pile', f_Mo_worked_L12 (fu + 1) (nI 0) (nI en) (nI st.length) (nI k) act pile with_ facts = f_Mo_worked_L12 fu (nI 0) (nI en) (nI (lw_do (lw_env n p) st o).length) (nI (k + 1)) act pile' with_ facts ∧ st_ok pile' (lw_do (lw_env n p) st o) := by
  cases hb : lw_bin o with
  | true =>
    obtain ⟨b, a, s, rfl⟩ := h1 hb
    obtain ⟨c, hc1, hc2, hc3, hc4⟩ := al_bin hb
    rw [hc3] at ha
    obtain ⟨q1, q2, q3⟩ := hs
    have q1' : pile (s.length + 1) = b := q1
    have hd' : s.length + 1 + 1 < 130 := hd
    rw [do_bin hb]
    refine ⟨upd pile s.length (lw_two o a b), ?_, st_push _ q3⟩
    rw [f_Mo_worked_L12]
    simp (disch := omega) only [n_lt, n_le, n_eq, n_cl, n_sub, nI_add, pk_mul, n_subL, n_Lsub, n_neN, n_Nne, n_leN, n_ltN, n_Nlt, n_Nle, le_T, le_F, lt_T, lt_F, eq_T, eq_F, true_or, or_true, false_or, or_false, true_and, and_true, false_and, and_false, and_self, or_self, not_true_eq_false, not_false_eq_true, decide_eq_true_eq, decide_true, decide_false, Bool.false_eq_true, Bool.true_eq_false, eq_self, ↓reduceIte, Option.bind_some, mo_in, lit_0, lit_1, lit_2, lit_3, lit_4, lit_5, lit_6, lit_7, lit_8, lit_9, lit_10, lit_11, lit_12, lit_13, lit_14, lit_15, lit_16, lit_20, lit_22, lit_24, lit_28, lit_30, lit_31, lit_32, lit_39, lit_40, lit_42, lit_48, lit_50, lit_57, lit_60, lit_61, lit_62, lit_63, lit_64, lit_100, lit_120, lit_121, lit_122, lit_128, lit_130, lit_255, lit_256, lit_360, lit_1024, lit_2147483647, m1_pred, Nat.add_sub_cancel, lit_124, lit_38, lit_37, lit_33, lit_126, lit_59, lit_112, lit_108, lit_110, lit_104, lit_47, lit_43, lit_45, lit_41, lit_123, lit_49, lit_58, lit_68, ha, hc4, f_Mo_worked_L182, List.length_cons, q1', q2]
  | false =>
    cases hu : lw_un o with
    | true =>
      obtain ⟨b, s, rfl⟩ := h2 hu
      obtain ⟨q1, q2⟩ := hs
      have hd' : s.length + 1 < 130 := hd
      rw [do_un hu]
      refine ⟨upd pile s.length (lw_one o b), ?_, st_push _ q2⟩
      rcases sg_unC hu with rfl | rfl
      · have ha' : act k = nI 3 := ha
        rw [f_Mo_worked_L12]
        by_cases hz : b = nI 0
        · have e : lw_one (-33) b = nI 1 := by rw [hz]; rfl
          rw [e]
          simp (disch := omega) only [n_lt, n_le, n_eq, n_cl, n_sub, nI_add, pk_mul, n_subL, n_Lsub, n_neN, n_Nne, n_leN, n_ltN, n_Nlt, n_Nle, le_T, le_F, lt_T, lt_F, eq_T, eq_F, true_or, or_true, false_or, or_false, true_and, and_true, false_and, and_false, and_self, or_self, not_true_eq_false, not_false_eq_true, decide_eq_true_eq, decide_true, decide_false, Bool.false_eq_true, Bool.true_eq_false, eq_self, ↓reduceIte, Option.bind_some, mo_in, lit_0, lit_1, lit_2, lit_3, lit_4, lit_5, lit_6, lit_7, lit_8, lit_9, lit_10, lit_11, lit_12, lit_13, lit_14, lit_15, lit_16, lit_20, lit_22, lit_24, lit_28, lit_30, lit_31, lit_32, lit_39, lit_40, lit_42, lit_48, lit_50, lit_57, lit_60, lit_61, lit_62, lit_63, lit_64, lit_100, lit_120, lit_121, lit_122, lit_128, lit_130, lit_255, lit_256, lit_360, lit_1024, lit_2147483647, m1_pred, Nat.add_sub_cancel, lit_124, lit_38, lit_37, lit_33, lit_126, lit_59, lit_112, lit_108, lit_110, lit_104, lit_47, lit_43, lit_45, lit_41, lit_123, lit_49, lit_58, lit_68, ha', f_Mo_worked_L117, f_Mo_worked_L182, List.length_cons, q1, hz, b2i]
        · have e : lw_one (-33) b = nI 0 := by
            show (if b = 0 then (1 : Int32) else 0) = 0
            rw [if_neg (show ¬ b = 0 from hz)]
          rw [e]
          simp (disch := omega) only [n_lt, n_le, n_eq, n_cl, n_sub, nI_add, pk_mul, n_subL, n_Lsub, n_neN, n_Nne, n_leN, n_ltN, n_Nlt, n_Nle, le_T, le_F, lt_T, lt_F, eq_T, eq_F, true_or, or_true, false_or, or_false, true_and, and_true, false_and, and_false, and_self, or_self, not_true_eq_false, not_false_eq_true, decide_eq_true_eq, decide_true, decide_false, Bool.false_eq_true, Bool.true_eq_false, eq_self, ↓reduceIte, Option.bind_some, mo_in, lit_0, lit_1, lit_2, lit_3, lit_4, lit_5, lit_6, lit_7, lit_8, lit_9, lit_10, lit_11, lit_12, lit_13, lit_14, lit_15, lit_16, lit_20, lit_22, lit_24, lit_28, lit_30, lit_31, lit_32, lit_39, lit_40, lit_42, lit_48, lit_50, lit_57, lit_60, lit_61, lit_62, lit_63, lit_64, lit_100, lit_120, lit_121, lit_122, lit_128, lit_130, lit_255, lit_256, lit_360, lit_1024, lit_2147483647, m1_pred, Nat.add_sub_cancel, lit_124, lit_38, lit_37, lit_33, lit_126, lit_59, lit_112, lit_108, lit_110, lit_104, lit_47, lit_43, lit_45, lit_41, lit_123, lit_49, lit_58, lit_68, ha', f_Mo_worked_L117, f_Mo_worked_L182, List.length_cons, q1, hz, b2i]
      · have ha' : act k = nI 4 := ha
        have e : lw_one (-126) b = -b := rfl
        rw [f_Mo_worked_L12, e]
        simp (disch := omega) only [n_lt, n_le, n_eq, n_cl, n_sub, nI_add, pk_mul, n_subL, n_Lsub, n_neN, n_Nne, n_leN, n_ltN, n_Nlt, n_Nle, le_T, le_F, lt_T, lt_F, eq_T, eq_F, true_or, or_true, false_or, or_false, true_and, and_true, false_and, and_false, and_self, or_self, not_true_eq_false, not_false_eq_true, decide_eq_true_eq, decide_true, decide_false, Bool.false_eq_true, Bool.true_eq_false, eq_self, ↓reduceIte, Option.bind_some, mo_in, lit_0, lit_1, lit_2, lit_3, lit_4, lit_5, lit_6, lit_7, lit_8, lit_9, lit_10, lit_11, lit_12, lit_13, lit_14, lit_15, lit_16, lit_20, lit_22, lit_24, lit_28, lit_30, lit_31, lit_32, lit_39, lit_40, lit_42, lit_48, lit_50, lit_57, lit_60, lit_61, lit_62, lit_63, lit_64, lit_100, lit_120, lit_121, lit_122, lit_128, lit_130, lit_255, lit_256, lit_360, lit_1024, lit_2147483647, m1_pred, Nat.add_sub_cancel, lit_124, lit_38, lit_37, lit_33, lit_126, lit_59, lit_112, lit_108, lit_110, lit_104, lit_47, lit_43, lit_45, lit_41, lit_123, lit_49, lit_58, lit_68, ha', f_Mo_worked_L182, List.length_cons, q1]
    | false =>
      rw [do_no hb hu]
      refine ⟨upd pile st.length (lw_env n p o), ?_, st_push _ hs⟩
      rcases ho with h | h | rfl | rfl | rfl | rfl | ⟨c, hc, rfl⟩
      · rw [hb] at h; cases h
      · rw [hu] at h; cases h
      · have ha' : act k = nI 2 := ha
        have hw' : with_ k = nI 0 := hw
        have e : lw_env n p (-112) = nI p := rfl
        rw [f_Mo_worked_L12, e]
        simp (disch := omega) only [n_lt, n_le, n_eq, n_cl, n_sub, nI_add, pk_mul, n_subL, n_Lsub, n_neN, n_Nne, n_leN, n_ltN, n_Nlt, n_Nle, le_T, le_F, lt_T, lt_F, eq_T, eq_F, true_or, or_true, false_or, or_false, true_and, and_true, false_and, and_false, and_self, or_self, not_true_eq_false, not_false_eq_true, decide_eq_true_eq, decide_true, decide_false, Bool.false_eq_true, Bool.true_eq_false, eq_self, ↓reduceIte, Option.bind_some, mo_in, lit_0, lit_1, lit_2, lit_3, lit_4, lit_5, lit_6, lit_7, lit_8, lit_9, lit_10, lit_11, lit_12, lit_13, lit_14, lit_15, lit_16, lit_20, lit_22, lit_24, lit_28, lit_30, lit_31, lit_32, lit_39, lit_40, lit_42, lit_48, lit_50, lit_57, lit_60, lit_61, lit_62, lit_63, lit_64, lit_100, lit_120, lit_121, lit_122, lit_128, lit_130, lit_255, lit_256, lit_360, lit_1024, lit_2147483647, m1_pred, Nat.add_sub_cancel, lit_124, lit_38, lit_37, lit_33, lit_126, lit_59, lit_112, lit_108, lit_110, lit_104, lit_47, lit_43, lit_45, lit_41, lit_123, lit_49, lit_58, lit_68, ha', hw', f_Mo_worked_L45, f_Mo_worked_L79, f_Mo_worked_L182, List.length_cons, g0]
      · have ha' : act k = nI 2 := ha
        have hw' : with_ k = nI 1 := hw
        have e : lw_env n p (-108) = nI (lw_bits p 10) := rfl
        rw [f_Mo_worked_L12, e]
        simp (disch := omega) only [n_lt, n_le, n_eq, n_cl, n_sub, nI_add, pk_mul, n_subL, n_Lsub, n_neN, n_Nne, n_leN, n_ltN, n_Nlt, n_Nle, le_T, le_F, lt_T, lt_F, eq_T, eq_F, true_or, or_true, false_or, or_false, true_and, and_true, false_and, and_false, and_self, or_self, not_true_eq_false, not_false_eq_true, decide_eq_true_eq, decide_true, decide_false, Bool.false_eq_true, Bool.true_eq_false, eq_self, ↓reduceIte, Option.bind_some, mo_in, lit_0, lit_1, lit_2, lit_3, lit_4, lit_5, lit_6, lit_7, lit_8, lit_9, lit_10, lit_11, lit_12, lit_13, lit_14, lit_15, lit_16, lit_20, lit_22, lit_24, lit_28, lit_30, lit_31, lit_32, lit_39, lit_40, lit_42, lit_48, lit_50, lit_57, lit_60, lit_61, lit_62, lit_63, lit_64, lit_100, lit_120, lit_121, lit_122, lit_128, lit_130, lit_255, lit_256, lit_360, lit_1024, lit_2147483647, m1_pred, Nat.add_sub_cancel, lit_124, lit_38, lit_37, lit_33, lit_126, lit_59, lit_112, lit_108, lit_110, lit_104, lit_47, lit_43, lit_45, lit_41, lit_123, lit_49, lit_58, lit_68, ha', hw', f_Mo_worked_L45, f_Mo_worked_L79, f_Mo_worked_L182, List.length_cons, g1]
      · have ha' : act k = nI 2 := ha
        have hw' : with_ k = nI 2 := hw
        have e : lw_env n p (-110) = nI n := rfl
        rw [f_Mo_worked_L12, e]
        simp (disch := omega) only [n_lt, n_le, n_eq, n_cl, n_sub, nI_add, pk_mul, n_subL, n_Lsub, n_neN, n_Nne, n_leN, n_ltN, n_Nlt, n_Nle, le_T, le_F, lt_T, lt_F, eq_T, eq_F, true_or, or_true, false_or, or_false, true_and, and_true, false_and, and_false, and_self, or_self, not_true_eq_false, not_false_eq_true, decide_eq_true_eq, decide_true, decide_false, Bool.false_eq_true, Bool.true_eq_false, eq_self, ↓reduceIte, Option.bind_some, mo_in, lit_0, lit_1, lit_2, lit_3, lit_4, lit_5, lit_6, lit_7, lit_8, lit_9, lit_10, lit_11, lit_12, lit_13, lit_14, lit_15, lit_16, lit_20, lit_22, lit_24, lit_28, lit_30, lit_31, lit_32, lit_39, lit_40, lit_42, lit_48, lit_50, lit_57, lit_60, lit_61, lit_62, lit_63, lit_64, lit_100, lit_120, lit_121, lit_122, lit_128, lit_130, lit_255, lit_256, lit_360, lit_1024, lit_2147483647, m1_pred, Nat.add_sub_cancel, lit_124, lit_38, lit_37, lit_33, lit_126, lit_59, lit_112, lit_108, lit_110, lit_104, lit_47, lit_43, lit_45, lit_41, lit_123, lit_49, lit_58, lit_68, ha', hw', f_Mo_worked_L45, f_Mo_worked_L79, f_Mo_worked_L182, List.length_cons, g2]
      · have ha' : act k = nI 2 := ha
        have hw' : with_ k = nI 3 := hw
        have e : lw_env n p (-104) = nI (lw_hi p) := rfl
        rw [f_Mo_worked_L12, e]
        simp (disch := omega) only [n_lt, n_le, n_eq, n_cl, n_sub, nI_add, pk_mul, n_subL, n_Lsub, n_neN, n_Nne, n_leN, n_ltN, n_Nlt, n_Nle, le_T, le_F, lt_T, lt_F, eq_T, eq_F, true_or, or_true, false_or, or_false, true_and, and_true, false_and, and_false, and_self, or_self, not_true_eq_false, not_false_eq_true, decide_eq_true_eq, decide_true, decide_false, Bool.false_eq_true, Bool.true_eq_false, eq_self, ↓reduceIte, Option.bind_some, mo_in, lit_0, lit_1, lit_2, lit_3, lit_4, lit_5, lit_6, lit_7, lit_8, lit_9, lit_10, lit_11, lit_12, lit_13, lit_14, lit_15, lit_16, lit_20, lit_22, lit_24, lit_28, lit_30, lit_31, lit_32, lit_39, lit_40, lit_42, lit_48, lit_50, lit_57, lit_60, lit_61, lit_62, lit_63, lit_64, lit_100, lit_120, lit_121, lit_122, lit_128, lit_130, lit_255, lit_256, lit_360, lit_1024, lit_2147483647, m1_pred, Nat.add_sub_cancel, lit_124, lit_38, lit_37, lit_33, lit_126, lit_59, lit_112, lit_108, lit_110, lit_104, lit_47, lit_43, lit_45, lit_41, lit_123, lit_49, lit_58, lit_68, ha', hw', f_Mo_worked_L45, f_Mo_worked_L79, f_Mo_worked_L182, List.length_cons, g3]
      · have h0 : (0 : Int32) ≤ nI c := nI_pos' (by omega)
        have ha' : act k = nI 1 := by rw [ha]; unfold lw_alike; rw [if_pos h0]; rfl
        have hw' : with_ k = nI c := by rw [hw]; unfold lw_alike; rw [if_pos h0]
        have e : lw_env n p (nI c) = nI c := by unfold lw_env; simp (disch := omega) only [n_lt, n_le, n_eq, n_cl, n_sub, nI_add, pk_mul, n_subL, n_Lsub, n_neN, n_Nne, n_leN, n_ltN, n_Nlt, n_Nle, le_T, le_F, lt_T, lt_F, eq_T, eq_F, true_or, or_true, false_or, or_false, true_and, and_true, false_and, and_false, and_self, or_self, not_true_eq_false, not_false_eq_true, decide_eq_true_eq, decide_true, decide_false, Bool.false_eq_true, Bool.true_eq_false, eq_self, ↓reduceIte, Option.bind_some, mo_in, lit_0, lit_1, lit_2, lit_3, lit_4, lit_5, lit_6, lit_7, lit_8, lit_9, lit_10, lit_11, lit_12, lit_13, lit_14, lit_15, lit_16, lit_20, lit_22, lit_24, lit_28, lit_30, lit_31, lit_32, lit_39, lit_40, lit_42, lit_48, lit_50, lit_57, lit_60, lit_61, lit_62, lit_63, lit_64, lit_100, lit_120, lit_121, lit_122, lit_128, lit_130, lit_255, lit_256, lit_360, lit_1024, lit_2147483647, m1_pred, Nat.add_sub_cancel, lit_124, lit_38, lit_37, lit_33, lit_126, lit_59, lit_112, lit_108, lit_110, lit_104, lit_47, lit_43, lit_45, lit_41, lit_123, lit_49, lit_58, lit_68]
        rw [f_Mo_worked_L12, e]
        simp (disch := omega) only [n_lt, n_le, n_eq, n_cl, n_sub, nI_add, pk_mul, n_subL, n_Lsub, n_neN, n_Nne, n_leN, n_ltN, n_Nlt, n_Nle, le_T, le_F, lt_T, lt_F, eq_T, eq_F, true_or, or_true, false_or, or_false, true_and, and_true, false_and, and_false, and_self, or_self, not_true_eq_false, not_false_eq_true, decide_eq_true_eq, decide_true, decide_false, Bool.false_eq_true, Bool.true_eq_false, eq_self, ↓reduceIte, Option.bind_some, mo_in, lit_0, lit_1, lit_2, lit_3, lit_4, lit_5, lit_6, lit_7, lit_8, lit_9, lit_10, lit_11, lit_12, lit_13, lit_14, lit_15, lit_16, lit_20, lit_22, lit_24, lit_28, lit_30, lit_31, lit_32, lit_39, lit_40, lit_42, lit_48, lit_50, lit_57, lit_60, lit_61, lit_62, lit_63, lit_64, lit_100, lit_120, lit_121, lit_122, lit_128, lit_130, lit_255, lit_256, lit_360, lit_1024, lit_2147483647, m1_pred, Nat.add_sub_cancel, lit_124, lit_38, lit_37, lit_33, lit_126, lit_59, lit_112, lit_108, lit_110, lit_104, lit_47, lit_43, lit_45, lit_41, lit_123, lit_49, lit_58, lit_68, ha', hw', f_Mo_worked_L45, f_Mo_worked_L79, f_Mo_worked_L182, List.length_cons]
theorem mo_run {p n en : Nat} {act with_ facts : Nat → Int32} (hp : p < 1024) (hen : en ≤ 130) (g0 : facts 0 = nI p) (g1 : facts 1 = nI (lw_bits p 10)) (g2 : facts 2 = nI n) (g3 : facts 3 = nI (lw_hi p)) : ∀ (e : List Int32) (st : List Int32) (k fu d : Nat) (pile : Nat → Int32), lw_dep e st.length = some d → (∀ o ∈ e, lw_sign o) → (∀ j o, e[j]? = some o → act (k + j) = (lw_alike o).1 ∧ with_ (k + j) = (lw_alike o).2) → st.length + e.length ≤ 130 → k + e.length ≤ en → st_ok pile st → ∃ pile', f_Mo_worked_L12 (fu + e.length) (nI 0) (nI en) (nI st.length) (nI k) act pile with_ facts = f_Mo_worked_L12 fu (nI 0) (nI en) (nI d) (nI (k + e.length)) act pile' with_ facts ∧ st_ok pile' (e.foldl (lw_do (lw_env n p)) st) ∧ (e.foldl (lw_do (lw_env n p)) st).length = d := by
  intro e
  induction e with
  | nil =>
    intro st k fu d f h1 h2 h3 h4 h5 h6
    have e1 : st.length = d := Option.some.inj h1
    subst e1
    exact ⟨f, rfl, h6, rfl⟩
  | cons o r ih =>
    intro st k fu d f h1 h2 h3 h4 h5 h6
    obtain ⟨b1, b2, b3, b4⟩ := dep_cons (env := lw_env n p) h1
    have h4' : st.length + (r.length + 1) ≤ 130 := h4
    have h5' : k + (r.length + 1) ≤ en := h5
    obtain ⟨a1, a2⟩ := h3 0 o rfl
    obtain ⟨f1, c1, c2⟩ := mo_step (n := n) (fu := fu + r.length) hp (show k < en by omega) hen a1 a2 g0 g1 g2 g3 (h2 o List.mem_cons_self) h6 (by omega) b1 b2
    obtain ⟨f2, c3, c4, c5⟩ := ih (lw_do (lw_env n p) st o) (k + 1) fu d f1 b3 (fun o' ho' => h2 o' (List.mem_cons_of_mem _ ho')) (fun j o' hj => by rw [show k + 1 + j = k + (j + 1) by omega]; exact h3 (j + 1) o' hj) (by omega) (by omega) c2
    refine ⟨f2, ?_, c4, c5⟩
    rw [show fu + (o :: r).length = fu + r.length + 1 from rfl, c1, c3, show k + (o :: r).length = k + 1 + r.length by rw [List.length_cons]; omega]
theorem mo_worked {p n k : Nat} {act with_ facts pile : Nat → Int32} (hp : p < 1024) (g0 : facts 0 = nI p) (g1 : facts 1 = nI (lw_bits p 10)) (g2 : facts 2 = nI n) (g3 : facts 3 = nI (lw_hi p)) {e : List Int32} (he : lw_okE e) (h3 : ∀ j o, e[j]? = some o → act (k + j) = (lw_alike o).1 ∧ with_ (k + j) = (lw_alike o).2) (h5 : k + e.length ≤ 130) : ∃ pile', f_Mo_worked (nI 0) (nI k) (nI (k + e.length)) act pile with_ facts = some (lw_val (lw_env n p) e, pile') := by
  obtain ⟨f1, c1, c2, c3⟩ := mo_run (n := n) (en := k + e.length) hp h5 g0 g1 g2 g3 e [] k (3000 - e.length) 1 pile he.1 he.2 h3 (by simp; omega) (by omega) trivial
  rw [show 3000 - e.length + e.length = 3000 by omega] at c1
  obtain ⟨v, hv⟩ := len_one c3
  rw [hv] at c2
  have e1 : f1 0 = v := c2.1
  have e3 : lw_val (lw_env n p) e = v := by unfold lw_val; rw [hv]; rfl
  obtain ⟨m, hm⟩ : ∃ m, 3000 - e.length = m + 1 := ⟨3000 - e.length - 1, by omega⟩
  refine ⟨f1, ?_⟩
  rw [List.length_nil] at c1
  rw [f_Mo_worked]
  have c4 : f_Mo_worked_L12 (3000 - e.length) (nI 0) (nI (k + e.length)) (nI 1) (nI (k + e.length)) act f1 with_ facts = some (lw_val (lw_env n p) e, f1) := by
    rw [hm, f_Mo_worked_L12, e3]
    simp (disch := omega) only [n_lt, n_le, n_eq, n_cl, n_sub, nI_add, pk_mul, n_subL, n_Lsub, n_neN, n_Nne, n_leN, n_ltN, n_Nlt, n_Nle, le_T, le_F, lt_T, lt_F, eq_T, eq_F, true_or, or_true, false_or, or_false, true_and, and_true, false_and, and_false, and_self, or_self, not_true_eq_false, not_false_eq_true, decide_eq_true_eq, decide_true, decide_false, Bool.false_eq_true, Bool.true_eq_false, eq_self, ↓reduceIte, Option.bind_some, mo_in, lit_0, lit_1, lit_2, lit_3, lit_4, lit_5, lit_6, lit_7, lit_8, lit_9, lit_10, lit_11, lit_12, lit_13, lit_14, lit_15, lit_16, lit_20, lit_22, lit_24, lit_28, lit_30, lit_31, lit_32, lit_39, lit_40, lit_42, lit_48, lit_50, lit_57, lit_60, lit_61, lit_62, lit_63, lit_64, lit_100, lit_120, lit_121, lit_122, lit_128, lit_130, lit_255, lit_256, lit_360, lit_1024, lit_2147483647, m1_pred, Nat.add_sub_cancel, lit_124, lit_38, lit_37, lit_33, lit_126, lit_59, lit_112, lit_108, lit_110, lit_104, lit_47, lit_43, lit_45, lit_41, lit_123, lit_49, lit_58, lit_68, e1]
  rw [show (130 : Int32) * nI 0 + nI k = nI k from by rw [show (130 : Int32) = nI 130 from rfl, pk_mul, nI_add]; congr 1; omega]
  exact c1.trans c4
