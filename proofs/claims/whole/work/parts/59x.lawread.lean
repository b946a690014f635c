/-! PURE: a text read: all lines, and the law that it becomes -/
theorem enc_app : ∀ (a b : List (List Int32 × List Int32)), lw_enc (a ++ b) = lw_enc a ++ lw_enc b
  | [], b => by rw [lw_enc]; rfl
  | (t, u) :: a, b => by rw [List.cons_append, lw_enc, lw_enc, enc_app a b]; simp only [List.append_assoc]
theorem ops_app : ∀ (a b : List (List Int32 × List Int32)), lw_ops (a ++ b) = lw_ops a ++ lw_ops b
  | [], b => by rw [lw_ops]; rfl
  | (t, u) :: a, b => by rw [List.cons_append, lw_ops, lw_ops, ops_app a b]; simp only [List.append_assoc]
theorem ends_app : ∀ (a b : List (List Int32 × List Int32)) (k : Nat), lw_ends (a ++ b) k = lw_ends a k ++ lw_ends b (k + (lw_ops a).length)
  | [], b, k => by rw [lw_ends, lw_ops]; rfl
  | (t, u) :: a, b, k => by
    rw [List.cons_append, lw_ends, lw_ends, ends_app a b, lw_ops, List.cons_append]
    congr 3
    simp; omega
theorem ends_len : ∀ (a : List (List Int32 × List Int32)) (k : Nat), (lw_ends a k).length = a.length
  | [], k => by rw [lw_ends]; rfl
  | (t, u) :: a, k => by rw [lw_ends, List.length_cons, List.length_cons, ends_len a]
theorem get_snocG {α : Type} {e : List α} {s x : α} {j : Nat} (h : (e ++ [s])[j]? = some x) : (j < e.length ∧ e[j]? = some x) ∨ (j = e.length ∧ s = x) := by
  by_cases c : j < e.length
  · rw [List.getElem?_append_left c] at h; exact Or.inl ⟨c, h⟩
  · rw [List.getElem?_append_right (by omega)] at h
    have hl := (List.getElem?_eq_some_iff.mp h).1
    have e2 : j = e.length := by simp at hl; omega
    subst e2
    rw [Nat.sub_self] at h
    exact Or.inr ⟨rfl, by simpa using h⟩
def lw_F (act wi LM TE LE act0 wi0 LM0 TE0 LE0 : Nat → Int32) : Prop := (∀ j, j < 130 → act j = act0 j ∧ wi j = wi0 j) ∧ (∀ j, j < 61 → TE j = TE0 j ∧ LE j = LE0 j) ∧ LM 0 = LM0 0
def lw_A (ls : List (List Int32 × List Int32)) (code act wi LM TE LE : Nat → Int32) : Prop :=
  (∀ q ∈ ls, lw_okL q) ∧ ha code 0 (lw_enc ls) ∧ hm act wi 130 (lw_ops ls) ∧ (∀ j q, (lw_ends ls 0)[j]? = some q → TE (61 + j) = nI q.1 ∧ LE (61 + j) = nI q.2) ∧ LM 1 = nI ls.length
def lw_X (k : Nat) (act0 wi0 LM0 TE0 LE0 : Nat → Int32) (rc : Option (Int32 × Int32 × Int32 × (Nat → Int32))) (rm : Option (Int32 × Int32 × Int32 × Int32 × Int32 × Int32 × (Nat → Int32) × (Nat → Int32) × (Nat → Int32) × (Nat → Int32) × (Nat → Int32))) : Prop :=
  (∃ (ls : List (List Int32 × List Int32)) (code act wi LM TE LE : Nat → Int32) (x h : Int32), (lw_enc ls).length ≤ k + 1 ∧ (lw_ops ls).length ≤ k ∧ 2 * ls.length ≤ k + 1 ∧ lw_A ls code act wi LM TE LE ∧ lw_F act wi LM TE LE act0 wi0 LM0 TE0 LE0 ∧ rc = some (-nI 1, nI (lw_enc ls).length, x, code) ∧ rm = f_Mo_readText_L86 (nI 0) (nI k) h (-nI 1) (nI 0) (nI (lw_ops ls).length) LM TE act wi LE) ∨
  (∃ (q : Nat) (x y h op la : Int32) (code act wi LM TE LE : Nat → Int32), q ≤ k ∧ rc = some (nI q, x, y, code) ∧ rm = some (nI q, nI 0, h, nI q, op, la, LM, TE, act, wi, LE) ∧ lw_F act wi LM TE LE act0 wi0 LM0 TE0 LE0)
theorem text_both {k : Nat} {letters tape : Nat → Int32} {c : Nat → Nat} (hk : k ≤ 120) (hc : ∀ j, j < k → c j < 256 ∧ letters j = nI (c j) ∧ tape j = (nI (c j)).toInt8.toInt32) {act0 wi0 LM0 TE0 LE0 : Nat → Int32} : ∀ (w i fu fuM : Nat) (ls : List (List Int32 × List Int32)) (code act wi LM TE LE : Nat → Int32), k - i ≤ w → i ≤ k → w < fu → w < fuM → (lw_enc ls).length ≤ i → (lw_ops ls).length ≤ i → 2 * ls.length ≤ i → lw_A ls code act wi LM TE LE → lw_F act wi LM TE LE act0 wi0 LM0 TE0 LE0 → lw_X k act0 wi0 LM0 TE0 LE0 (f_Ta_read_L12 fu (nI ls.length) (nI k) (nI (lw_enc ls).length) (nI i) letters code) ((f_Mo_line (nI k) (nI i) (-nI 1) (nI 0) (nI (lw_ops ls).length) LM TE tape act wi LE).bind fun (u15, u16, u17, u18, u19, u20, u21, u22, u23) => f_Mo_readText_L31 fuM (nI 0) (nI k) u15 u16 u17 u18 u19 u20 tape u21 u22 u23) := by
  intro w
  induction w with
  | zero =>
    intro i fu fuM ls code act wi LM TE LE hw hi hfu hfuM he ho hn hA hF
    obtain ⟨g, rfl⟩ : ∃ g, fu = g + 1 := ⟨fu - 1, by omega⟩
    obtain ⟨gM, rfl⟩ : ∃ g, fuM = g + 1 := ⟨fuM - 1, by omega⟩
    obtain ⟨A1, A2, A3, A4, A5⟩ := hA
    obtain ⟨F1, F2, F3⟩ := hF
    rcases line_both (code := code) (act := act) (wi := wi) (TE := TE) (LE := LE) hk hc hi he ho hn A5 with ⟨t, b, i', l1, l2, l3, _⟩ | ⟨q, h, r, cl', op', la', code', act', wi', LM', TE', LE', b1, b2, b3, b4, b5, b6, b7⟩
    · omega
    · refine Or.inr ?_
      have hm1 : ((f_Mo_line (nI k) (nI i) (-nI 1) (nI 0) (nI (lw_ops ls).length) LM TE tape act wi LE).bind fun (u15, u16, u17, u18, u19, u20, u21, u22, u23) => f_Mo_readText_L31 (gM + 1) (nI 0) (nI k) u15 u16 u17 u18 u19 u20 tape u21 u22 u23) = some (nI q, nI 0, nI h, nI q, op', la', LM', TE', act', wi', LE') := by
        rw [b4]
        show f_Mo_readText_L31 (gM + 1) (nI 0) (nI k) (nI h) (nI q) op' la' LM' TE' tape act' wi' LE' = _
        rw [f_Mo_readText_L31]
        simp (disch := omega) only [n_lt, n_le, n_eq, n_cl, n_sub, nI_add, pk_mul, n_subL, n_Lsub, n_neN, n_Nne, n_leN, n_ltN, n_Nlt, n_Nle, le_T, le_F, lt_T, lt_F, eq_T, eq_F, true_or, or_true, false_or, or_false, true_and, and_true, false_and, and_false, and_self, or_self, not_true_eq_false, not_false_eq_true, decide_eq_true_eq, decide_true, decide_false, Bool.false_eq_true, Bool.true_eq_false, eq_self, ↓reduceIte, Option.bind_some, mo_in, lit_0, lit_1, lit_2, lit_3, lit_4, lit_5, lit_6, lit_7, lit_8, lit_9, lit_10, lit_11, lit_12, lit_13, lit_14, lit_15, lit_16, lit_20, lit_22, lit_24, lit_28, lit_30, lit_31, lit_32, lit_39, lit_40, lit_42, lit_48, lit_50, lit_57, lit_60, lit_61, lit_62, lit_63, lit_64, lit_100, lit_120, lit_121, lit_122, lit_128, lit_130, lit_255, lit_256, lit_360, lit_1024, lit_2147483647, m1_pred, Nat.add_sub_cancel, lit_124, lit_38, lit_37, lit_33, lit_126, lit_59, lit_112, lit_108, lit_110, lit_104, lit_47, lit_43, lit_45, lit_41, lit_123, lit_49, lit_58, lit_68, f_Mo_readText_L64, f_Mo_readText_L86]
      cases r with
      | false =>
        refine ⟨q, cl', nI q, nI h, op', la', code', act', wi', LM', TE', LE', b1, ?_, hm1, fun j hj => ?_, fun j hj => ?_, b7.trans F3⟩
        · rw [f_Ta_read_L12, b2]
          simp (disch := omega) only [n_lt, n_le, n_eq, n_cl, n_sub, nI_add, pk_mul, n_subL, n_Lsub, n_neN, n_Nne, n_leN, n_ltN, n_Nlt, n_Nle, le_T, le_F, lt_T, lt_F, eq_T, eq_F, true_or, or_true, false_or, or_false, true_and, and_true, false_and, and_false, and_self, or_self, not_true_eq_false, not_false_eq_true, decide_eq_true_eq, decide_true, decide_false, Bool.false_eq_true, Bool.true_eq_false, eq_self, ↓reduceIte, Option.bind_some, mo_in, lit_0, lit_1, lit_2, lit_3, lit_4, lit_5, lit_6, lit_7, lit_8, lit_9, lit_10, lit_11, lit_12, lit_13, lit_14, lit_15, lit_16, lit_20, lit_22, lit_24, lit_28, lit_30, lit_31, lit_32, lit_39, lit_40, lit_42, lit_48, lit_50, lit_57, lit_60, lit_61, lit_62, lit_63, lit_64, lit_100, lit_120, lit_121, lit_122, lit_128, lit_130, lit_255, lit_256, lit_360, lit_1024, lit_2147483647, m1_pred, Nat.add_sub_cancel, lit_124, lit_38, lit_37, lit_33, lit_126, lit_59, lit_112, lit_108, lit_110, lit_104, lit_47, lit_43, lit_45, lit_41, lit_123, lit_49, lit_58, lit_68]
        · rw [(b5 j (by omega)).1, (b5 j (by omega)).2]; exact F1 j hj
        · rw [(b6 j hj).1, (b6 j hj).2]; exact F2 j hj
      | true =>
        have := b3 rfl
        refine ⟨q, cl', nI q, nI h, op', la', code', act', wi', LM', TE', LE', b1, ?_, hm1, fun j hj => ?_, fun j hj => ?_, b7.trans F3⟩
        · obtain ⟨lc, lm, s1, s2, s3⟩ := see hk hc b1
          rcases s3 with ⟨m, hm, hlt, hcm, rfl, rfl⟩ | ⟨o1, o2, o3⟩
          · have z1 : (nI m = nI 59) = False := by rw [n_eq (by omega) (by omega)]; exact eq_false (by omega)
            rw [f_Ta_read_L12, b2]
            simp (disch := omega) only [n_lt, n_le, n_eq, n_cl, n_sub, nI_add, pk_mul, n_subL, n_Lsub, n_neN, n_Nne, n_leN, n_ltN, n_Nlt, n_Nle, le_T, le_F, lt_T, lt_F, eq_T, eq_F, true_or, or_true, false_or, or_false, true_and, and_true, false_and, and_false, and_self, or_self, not_true_eq_false, not_false_eq_true, decide_eq_true_eq, decide_true, decide_false, Bool.false_eq_true, Bool.true_eq_false, eq_self, ↓reduceIte, Option.bind_some, mo_in, lit_0, lit_1, lit_2, lit_3, lit_4, lit_5, lit_6, lit_7, lit_8, lit_9, lit_10, lit_11, lit_12, lit_13, lit_14, lit_15, lit_16, lit_20, lit_22, lit_24, lit_28, lit_30, lit_31, lit_32, lit_39, lit_40, lit_42, lit_48, lit_50, lit_57, lit_60, lit_61, lit_62, lit_63, lit_64, lit_100, lit_120, lit_121, lit_122, lit_128, lit_130, lit_255, lit_256, lit_360, lit_1024, lit_2147483647, m1_pred, Nat.add_sub_cancel, lit_124, lit_38, lit_37, lit_33, lit_126, lit_59, lit_112, lit_108, lit_110, lit_104, lit_47, lit_43, lit_45, lit_41, lit_123, lit_49, lit_58, lit_68, s1, z1]
          · omega
        · rw [(b5 j (by omega)).1, (b5 j (by omega)).2]; exact F1 j hj
        · rw [(b6 j hj).1, (b6 j hj).2]; exact F2 j hj
  | succ w ih =>
    intro i fu fuM ls code act wi LM TE LE hw hi hfu hfuM he ho hn hA hF
    obtain ⟨g, rfl⟩ : ∃ g, fu = g + 1 := ⟨fu - 1, by omega⟩
    obtain ⟨gM, rfl⟩ : ∃ g, fuM = g + 1 := ⟨fuM - 1, by omega⟩
    obtain ⟨A1, A2, A3, A4, A5⟩ := hA
    obtain ⟨F1, F2, F3⟩ := hF
    rcases line_both (code := code) (act := act) (wi := wi) (TE := TE) (LE := LE) hk hc hi he ho hn A5 with ⟨t, b, i', l1, l2, l3, l4, l5, code', act', wi', TE', l6, l7, l8, l9, l10, l11, l12, l13⟩ | ⟨q, h, r, cl', op', la', code', act', wi', LM', TE', LE', b1, b2, b3, b4, b5, b6, b7⟩
    rotate_left
    · refine Or.inr ?_
      have hm1 : ((f_Mo_line (nI k) (nI i) (-nI 1) (nI 0) (nI (lw_ops ls).length) LM TE tape act wi LE).bind fun (u15, u16, u17, u18, u19, u20, u21, u22, u23) => f_Mo_readText_L31 (gM + 1) (nI 0) (nI k) u15 u16 u17 u18 u19 u20 tape u21 u22 u23) = some (nI q, nI 0, nI h, nI q, op', la', LM', TE', act', wi', LE') := by
        rw [b4]
        show f_Mo_readText_L31 (gM + 1) (nI 0) (nI k) (nI h) (nI q) op' la' LM' TE' tape act' wi' LE' = _
        rw [f_Mo_readText_L31]
        simp (disch := omega) only [n_lt, n_le, n_eq, n_cl, n_sub, nI_add, pk_mul, n_subL, n_Lsub, n_neN, n_Nne, n_leN, n_ltN, n_Nlt, n_Nle, le_T, le_F, lt_T, lt_F, eq_T, eq_F, true_or, or_true, false_or, or_false, true_and, and_true, false_and, and_false, and_self, or_self, not_true_eq_false, not_false_eq_true, decide_eq_true_eq, decide_true, decide_false, Bool.false_eq_true, Bool.true_eq_false, eq_self, ↓reduceIte, Option.bind_some, mo_in, lit_0, lit_1, lit_2, lit_3, lit_4, lit_5, lit_6, lit_7, lit_8, lit_9, lit_10, lit_11, lit_12, lit_13, lit_14, lit_15, lit_16, lit_20, lit_22, lit_24, lit_28, lit_30, lit_31, lit_32, lit_39, lit_40, lit_42, lit_48, lit_50, lit_57, lit_60, lit_61, lit_62, lit_63, lit_64, lit_100, lit_120, lit_121, lit_122, lit_128, lit_130, lit_255, lit_256, lit_360, lit_1024, lit_2147483647, m1_pred, Nat.add_sub_cancel, lit_124, lit_38, lit_37, lit_33, lit_126, lit_59, lit_112, lit_108, lit_110, lit_104, lit_47, lit_43, lit_45, lit_41, lit_123, lit_49, lit_58, lit_68, f_Mo_readText_L64, f_Mo_readText_L86]
      cases r with
      | false =>
        refine ⟨q, cl', nI q, nI h, op', la', code', act', wi', LM', TE', LE', b1, ?_, hm1, fun j hj => ?_, fun j hj => ?_, b7.trans F3⟩
        · rw [f_Ta_read_L12, b2]
          simp (disch := omega) only [n_lt, n_le, n_eq, n_cl, n_sub, nI_add, pk_mul, n_subL, n_Lsub, n_neN, n_Nne, n_leN, n_ltN, n_Nlt, n_Nle, le_T, le_F, lt_T, lt_F, eq_T, eq_F, true_or, or_true, false_or, or_false, true_and, and_true, false_and, and_false, and_self, or_self, not_true_eq_false, not_false_eq_true, decide_eq_true_eq, decide_true, decide_false, Bool.false_eq_true, Bool.true_eq_false, eq_self, ↓reduceIte, Option.bind_some, mo_in, lit_0, lit_1, lit_2, lit_3, lit_4, lit_5, lit_6, lit_7, lit_8, lit_9, lit_10, lit_11, lit_12, lit_13, lit_14, lit_15, lit_16, lit_20, lit_22, lit_24, lit_28, lit_30, lit_31, lit_32, lit_39, lit_40, lit_42, lit_48, lit_50, lit_57, lit_60, lit_61, lit_62, lit_63, lit_64, lit_100, lit_120, lit_121, lit_122, lit_128, lit_130, lit_255, lit_256, lit_360, lit_1024, lit_2147483647, m1_pred, Nat.add_sub_cancel, lit_124, lit_38, lit_37, lit_33, lit_126, lit_59, lit_112, lit_108, lit_110, lit_104, lit_47, lit_43, lit_45, lit_41, lit_123, lit_49, lit_58, lit_68]
        · rw [(b5 j (by omega)).1, (b5 j (by omega)).2]; exact F1 j hj
        · rw [(b6 j hj).1, (b6 j hj).2]; exact F2 j hj
      | true =>
        have := b3 rfl
        refine ⟨q, cl', nI q, nI h, op', la', code', act', wi', LM', TE', LE', b1, ?_, hm1, fun j hj => ?_, fun j hj => ?_, b7.trans F3⟩
        · obtain ⟨lc, lm, s1, s2, s3⟩ := see hk hc b1
          rcases s3 with ⟨m, hm, hlt, hcm, rfl, rfl⟩ | ⟨o1, o2, o3⟩
          · have z1 : (nI m = nI 59) = False := by rw [n_eq (by omega) (by omega)]; exact eq_false (by omega)
            rw [f_Ta_read_L12, b2]
            simp (disch := omega) only [n_lt, n_le, n_eq, n_cl, n_sub, nI_add, pk_mul, n_subL, n_Lsub, n_neN, n_Nne, n_leN, n_ltN, n_Nlt, n_Nle, le_T, le_F, lt_T, lt_F, eq_T, eq_F, true_or, or_true, false_or, or_false, true_and, and_true, false_and, and_false, and_self, or_self, not_true_eq_false, not_false_eq_true, decide_eq_true_eq, decide_true, decide_false, Bool.false_eq_true, Bool.true_eq_false, eq_self, ↓reduceIte, Option.bind_some, mo_in, lit_0, lit_1, lit_2, lit_3, lit_4, lit_5, lit_6, lit_7, lit_8, lit_9, lit_10, lit_11, lit_12, lit_13, lit_14, lit_15, lit_16, lit_20, lit_22, lit_24, lit_28, lit_30, lit_31, lit_32, lit_39, lit_40, lit_42, lit_48, lit_50, lit_57, lit_60, lit_61, lit_62, lit_63, lit_64, lit_100, lit_120, lit_121, lit_122, lit_128, lit_130, lit_255, lit_256, lit_360, lit_1024, lit_2147483647, m1_pred, Nat.add_sub_cancel, lit_124, lit_38, lit_37, lit_33, lit_126, lit_59, lit_112, lit_108, lit_110, lit_104, lit_47, lit_43, lit_45, lit_41, lit_123, lit_49, lit_58, lit_68, s1, z1]
          · omega
        · rw [(b5 j (by omega)).1, (b5 j (by omega)).2]; exact F1 j hj
        · rw [(b6 j hj).1, (b6 j hj).2]; exact F2 j hj
    have e1 : lw_enc (ls ++ [(t, b)]) = lw_enc ls ++ lw_enc [(t, b)] := enc_app _ _
    have e2 : lw_ops (ls ++ [(t, b)]) = lw_ops ls ++ (t ++ b) := by rw [ops_app, lw_ops, lw_ops, List.append_nil]
    have e3 : lw_ends (ls ++ [(t, b)]) 0 = lw_ends ls 0 ++ [((lw_ops ls).length + t.length, (lw_ops ls).length + t.length + b.length)] := by
      rw [ends_app, lw_ends, lw_ends, Nat.zero_add]
    have n1 : (lw_enc (ls ++ [(t, b)])).length = (lw_enc ls).length + (lw_enc [(t, b)]).length := by rw [e1, List.length_append]
    have n2 : (lw_ops (ls ++ [(t, b)])).length = (lw_ops ls).length + (t ++ b).length := by rw [e2, List.length_append]
    have n3 : (ls ++ [(t, b)]).length = ls.length + 1 := by simp
    have hA' : lw_A (ls ++ [(t, b)]) code' act' wi' (upd LM 1 (nI (ls.length + 1))) TE' (upd LE (61 + ls.length) (nI ((lw_ops ls).length + t.length + b.length))) := by
      refine ⟨fun q hq => ?_, ?_, ?_, fun j q hj => ?_, by rw [pk_us, n3]⟩
      · rw [List.mem_append] at hq
        rcases hq with z | z
        · exact A1 q z
        · have z' : q = (t, b) := by simpa using z
          rw [z']; exact l1
      · rw [e1]
        exact ha_app A2 (by rw [Nat.zero_add]; exact l9) (fun j hj => l8 j (by omega))
      · rw [e2]
        exact hm_app A3 l11 (fun j hj => l10 j (by omega))
      · rw [e3] at hj
        rcases get_snocG hj with ⟨z1, z2⟩ | ⟨z1, z2⟩
        · rw [ends_len] at z1
          rw [l13 _ (by omega), pk_un (by omega)]
          exact A4 j q z2
        · rw [ends_len] at z1
          subst z1
          rw [l12, pk_us, ← z2]
          exact ⟨rfl, rfl⟩
    have hF' : lw_F act' wi' (upd LM 1 (nI (ls.length + 1))) TE' (upd LE (61 + ls.length) (nI ((lw_ops ls).length + t.length + b.length))) act0 wi0 LM0 TE0 LE0 := by
      refine ⟨fun j hj => ?_, fun j hj => ?_, by rw [pk_un (by omega)]; exact F3⟩
      · rw [(l10 j (by omega)).1, (l10 j (by omega)).2]; exact F1 j hj
      · rw [l13 _ (by omega), pk_un (by omega)]; exact F2 j hj
    rw [l7, ← n2]
    rw [← n1] at l6
    show lw_X k act0 wi0 LM0 TE0 LE0 _ (f_Mo_readText_L31 (gM + 1) (nI 0) (nI k) (nI i') (-nI 1) (nI 0) (nI (lw_ops (ls ++ [(t, b)])).length) (upd LM 1 (nI (ls.length + 1))) TE' tape act' wi' (upd LE (61 + ls.length) (nI ((lw_ops ls).length + t.length + b.length))))
    obtain ⟨lc, lm, s1, s2, s3⟩ := see hk hc l3
    by_cases hik : i' = k
    · subst hik
      refine Or.inl ⟨ls ++ [(t, b)], code', act', wi', _, TE', _, nI i', nI i', by rw [n1]; omega, by rw [n2]; omega, by rw [n3]; omega, hA', hF', ?_, ?_⟩
      · rw [f_Ta_read_L12, l6]
        simp (disch := omega) only [n_lt, n_le, n_eq, n_cl, n_sub, nI_add, pk_mul, n_subL, n_Lsub, n_neN, n_Nne, n_leN, n_ltN, n_Nlt, n_Nle, le_T, le_F, lt_T, lt_F, eq_T, eq_F, true_or, or_true, false_or, or_false, true_and, and_true, false_and, and_false, and_self, or_self, not_true_eq_false, not_false_eq_true, decide_eq_true_eq, decide_true, decide_false, Bool.false_eq_true, Bool.true_eq_false, eq_self, ↓reduceIte, Option.bind_some, mo_in, lit_0, lit_1, lit_2, lit_3, lit_4, lit_5, lit_6, lit_7, lit_8, lit_9, lit_10, lit_11, lit_12, lit_13, lit_14, lit_15, lit_16, lit_20, lit_22, lit_24, lit_28, lit_30, lit_31, lit_32, lit_39, lit_40, lit_42, lit_48, lit_50, lit_57, lit_60, lit_61, lit_62, lit_63, lit_64, lit_100, lit_120, lit_121, lit_122, lit_128, lit_130, lit_255, lit_256, lit_360, lit_1024, lit_2147483647, m1_pred, Nat.add_sub_cancel, lit_124, lit_38, lit_37, lit_33, lit_126, lit_59, lit_112, lit_108, lit_110, lit_104, lit_47, lit_43, lit_45, lit_41, lit_123, lit_49, lit_58, lit_68]
      · rcases s3 with ⟨m, hm, hlt, _⟩ | ⟨o1, o2, o3⟩
        · omega
        · rw [f_Mo_readText_L31]
          simp (disch := omega) only [n_lt, n_le, n_eq, n_cl, n_sub, nI_add, pk_mul, n_subL, n_Lsub, n_neN, n_Nne, n_leN, n_ltN, n_Nlt, n_Nle, le_T, le_F, lt_T, lt_F, eq_T, eq_F, true_or, or_true, false_or, or_false, true_and, and_true, false_and, and_false, and_self, or_self, not_true_eq_false, not_false_eq_true, decide_eq_true_eq, decide_true, decide_false, Bool.false_eq_true, Bool.true_eq_false, eq_self, ↓reduceIte, Option.bind_some, mo_in, lit_0, lit_1, lit_2, lit_3, lit_4, lit_5, lit_6, lit_7, lit_8, lit_9, lit_10, lit_11, lit_12, lit_13, lit_14, lit_15, lit_16, lit_20, lit_22, lit_24, lit_28, lit_30, lit_31, lit_32, lit_39, lit_40, lit_42, lit_48, lit_50, lit_57, lit_60, lit_61, lit_62, lit_63, lit_64, lit_100, lit_120, lit_121, lit_122, lit_128, lit_130, lit_255, lit_256, lit_360, lit_1024, lit_2147483647, m1_pred, Nat.add_sub_cancel, lit_124, lit_38, lit_37, lit_33, lit_126, lit_59, lit_112, lit_108, lit_110, lit_104, lit_47, lit_43, lit_45, lit_41, lit_123, lit_49, lit_58, lit_68, s2, o2.1 59 (by omega), f_Mo_readText_L64]
    have hbad : (lc = nI 59) = False → (lm = nI 59) = False → lw_X k act0 wi0 LM0 TE0 LE0 (f_Ta_read_L12 (g + 1) (nI ls.length) (nI k) (nI (lw_enc ls).length) (nI i) letters code) (f_Mo_readText_L31 (gM + 1) (nI 0) (nI k) (nI i') (-nI 1) (nI 0) (nI (lw_ops (ls ++ [(t, b)])).length) (upd LM 1 (nI (ls.length + 1))) TE' tape act' wi' (upd LE (61 + ls.length) (nI ((lw_ops ls).length + t.length + b.length)))) := by
      intro z1 z2
      refine Or.inr ⟨i', nI (lw_enc (ls ++ [(t, b)])).length, nI i', nI i', nI 0, nI (lw_ops (ls ++ [(t, b)])).length, code', act', wi', _, TE', _, l3, ?_, ?_, hF'⟩
      · rw [f_Ta_read_L12, l6]
        simp (disch := omega) only [n_lt, n_le, n_eq, n_cl, n_sub, nI_add, pk_mul, n_subL, n_Lsub, n_neN, n_Nne, n_leN, n_ltN, n_Nlt, n_Nle, le_T, le_F, lt_T, lt_F, eq_T, eq_F, true_or, or_true, false_or, or_false, true_and, and_true, false_and, and_false, and_self, or_self, not_true_eq_false, not_false_eq_true, decide_eq_true_eq, decide_true, decide_false, Bool.false_eq_true, Bool.true_eq_false, eq_self, ↓reduceIte, Option.bind_some, mo_in, lit_0, lit_1, lit_2, lit_3, lit_4, lit_5, lit_6, lit_7, lit_8, lit_9, lit_10, lit_11, lit_12, lit_13, lit_14, lit_15, lit_16, lit_20, lit_22, lit_24, lit_28, lit_30, lit_31, lit_32, lit_39, lit_40, lit_42, lit_48, lit_50, lit_57, lit_60, lit_61, lit_62, lit_63, lit_64, lit_100, lit_120, lit_121, lit_122, lit_128, lit_130, lit_255, lit_256, lit_360, lit_1024, lit_2147483647, m1_pred, Nat.add_sub_cancel, lit_124, lit_38, lit_37, lit_33, lit_126, lit_59, lit_112, lit_108, lit_110, lit_104, lit_47, lit_43, lit_45, lit_41, lit_123, lit_49, lit_58, lit_68, s1, z1]
      · rw [f_Mo_readText_L31]
        simp (disch := omega) only [n_lt, n_le, n_eq, n_cl, n_sub, nI_add, pk_mul, n_subL, n_Lsub, n_neN, n_Nne, n_leN, n_ltN, n_Nlt, n_Nle, le_T, le_F, lt_T, lt_F, eq_T, eq_F, true_or, or_true, false_or, or_false, true_and, and_true, false_and, and_false, and_self, or_self, not_true_eq_false, not_false_eq_true, decide_eq_true_eq, decide_true, decide_false, Bool.false_eq_true, Bool.true_eq_false, eq_self, ↓reduceIte, Option.bind_some, mo_in, lit_0, lit_1, lit_2, lit_3, lit_4, lit_5, lit_6, lit_7, lit_8, lit_9, lit_10, lit_11, lit_12, lit_13, lit_14, lit_15, lit_16, lit_20, lit_22, lit_24, lit_28, lit_30, lit_31, lit_32, lit_39, lit_40, lit_42, lit_48, lit_50, lit_57, lit_60, lit_61, lit_62, lit_63, lit_64, lit_100, lit_120, lit_121, lit_122, lit_128, lit_130, lit_255, lit_256, lit_360, lit_1024, lit_2147483647, m1_pred, Nat.add_sub_cancel, lit_124, lit_38, lit_37, lit_33, lit_126, lit_59, lit_112, lit_108, lit_110, lit_104, lit_47, lit_43, lit_45, lit_41, lit_123, lit_49, lit_58, lit_68, s2, z2, f_Mo_readText_L64, f_Mo_readText_L86, f_Mo_faulty]
    rcases s3 with ⟨m, hm, hlt, hcm, rfl, rfl⟩ | ⟨o1, o2, o3⟩
    rotate_left
    · exact hbad (o1.1 59 (by omega)) (o2.1 59 (by omega))
    by_cases h59 : m = 59
    rotate_left
    · have z1 : (nI m = nI 59) = False := by rw [n_eq (by omega) (by omega)]; exact eq_false h59
      exact hbad z1 z1
    subst h59
    have hih := ih (i' + 1) g gM (ls ++ [(t, b)]) code' act' wi' _ TE' _ (by omega) (by omega) (by omega) (by omega) (by rw [n1]; omega) (by rw [n2]; omega) (by rw [n3]; omega) hA' hF'
    have c1 : f_Ta_read_L12 (g + 1) (nI ls.length) (nI k) (nI (lw_enc ls).length) (nI i) letters code = f_Ta_read_L12 g (nI (ls ++ [(t, b)]).length) (nI k) (nI (lw_enc (ls ++ [(t, b)])).length) (nI (i' + 1)) letters code' := by
      rw [f_Ta_read_L12, l6, n3]
      simp (disch := omega) only [n_lt, n_le, n_eq, n_cl, n_sub, nI_add, pk_mul, n_subL, n_Lsub, n_neN, n_Nne, n_leN, n_ltN, n_Nlt, n_Nle, le_T, le_F, lt_T, lt_F, eq_T, eq_F, true_or, or_true, false_or, or_false, true_and, and_true, false_and, and_false, and_self, or_self, not_true_eq_false, not_false_eq_true, decide_eq_true_eq, decide_true, decide_false, Bool.false_eq_true, Bool.true_eq_false, eq_self, ↓reduceIte, Option.bind_some, mo_in, lit_0, lit_1, lit_2, lit_3, lit_4, lit_5, lit_6, lit_7, lit_8, lit_9, lit_10, lit_11, lit_12, lit_13, lit_14, lit_15, lit_16, lit_20, lit_22, lit_24, lit_28, lit_30, lit_31, lit_32, lit_39, lit_40, lit_42, lit_48, lit_50, lit_57, lit_60, lit_61, lit_62, lit_63, lit_64, lit_100, lit_120, lit_121, lit_122, lit_128, lit_130, lit_255, lit_256, lit_360, lit_1024, lit_2147483647, m1_pred, Nat.add_sub_cancel, lit_124, lit_38, lit_37, lit_33, lit_126, lit_59, lit_112, lit_108, lit_110, lit_104, lit_47, lit_43, lit_45, lit_41, lit_123, lit_49, lit_58, lit_68, s1]
    have c2 : f_Mo_readText_L31 (gM + 1) (nI 0) (nI k) (nI i') (-nI 1) (nI 0) (nI (lw_ops (ls ++ [(t, b)])).length) (upd LM 1 (nI (ls.length + 1))) TE' tape act' wi' (upd LE (61 + ls.length) (nI ((lw_ops ls).length + t.length + b.length))) = ((f_Mo_line (nI k) (nI (i' + 1)) (-nI 1) (nI 0) (nI (lw_ops (ls ++ [(t, b)])).length) (upd LM 1 (nI (ls.length + 1))) TE' tape act' wi' (upd LE (61 + ls.length) (nI ((lw_ops ls).length + t.length + b.length)))).bind fun (u15, u16, u17, u18, u19, u20, u21, u22, u23) => f_Mo_readText_L31 gM (nI 0) (nI k) u15 u16 u17 u18 u19 u20 tape u21 u22 u23) := by
      have eb : nI i' + 1 = nI (i' + 1) := by rw [show (1 : Int32) = nI 1 from rfl, nI_add]
      rw [f_Mo_readText_L31, if_neg (show ¬ ((0 : Int32) ≤ -nI 1) by decide), s2, Option.bind_some, if_pos (show nI 59 = (59 : Int32) from rfl), eb]
    rw [c1, c2]
    exact hih
theorem copy_steps {h f op la : Int32} {LM TE LE : Nat → Int32} {ld : Nat} (hl : ld ≤ 130) (he : la = nI ld) : ∀ (w j fu : Nat) (act wi : Nat → Int32), j + w = ld → w < fu → (∀ x, x < ld → (act (130 + x)).toInt8.toInt32 = act (130 + x)) → ∃ act' wi' : Nat → Int32, f_Mo_readText_L105 fu (nI 0) (nI j) (nI 0) h f op la LM TE act wi LE = f_Mo_readText_L177 3000 (nI 0) (nI 0) (nI 0) h f op la (upd LM 0 (LM 1)) TE act' wi' LE ∧ (∀ x, j ≤ x → x < ld → act' x = act (130 + x) ∧ wi' x = wi (130 + x)) ∧ (∀ x, x < j → act' x = act x ∧ wi' x = wi x) := by
  subst he
  intro w
  induction w with
  | zero =>
    intro j fu act wi hj hfu hb
    obtain ⟨g, rfl⟩ : ∃ g, fu = g + 1 := ⟨fu - 1, by omega⟩
    refine ⟨act, wi, ?_, fun x _ _ => by omega, fun x _ => ⟨rfl, rfl⟩⟩
    rw [f_Mo_readText_L105]
    simp (disch := omega) only [n_lt, n_le, n_eq, n_cl, n_sub, nI_add, pk_mul, n_subL, n_Lsub, n_neN, n_Nne, n_leN, n_ltN, n_Nlt, n_Nle, le_T, le_F, lt_T, lt_F, eq_T, eq_F, true_or, or_true, false_or, or_false, true_and, and_true, false_and, and_false, and_self, or_self, not_true_eq_false, not_false_eq_true, decide_eq_true_eq, decide_true, decide_false, Bool.false_eq_true, Bool.true_eq_false, eq_self, ↓reduceIte, Option.bind_some, mo_in, lit_0, lit_1, lit_2, lit_3, lit_4, lit_5, lit_6, lit_7, lit_8, lit_9, lit_10, lit_11, lit_12, lit_13, lit_14, lit_15, lit_16, lit_20, lit_22, lit_24, lit_28, lit_30, lit_31, lit_32, lit_39, lit_40, lit_42, lit_48, lit_50, lit_57, lit_60, lit_61, lit_62, lit_63, lit_64, lit_100, lit_120, lit_121, lit_122, lit_128, lit_130, lit_255, lit_256, lit_360, lit_1024, lit_2147483647, m1_pred, Nat.add_sub_cancel, lit_124, lit_38, lit_37, lit_33, lit_126, lit_59, lit_112, lit_108, lit_110, lit_104, lit_47, lit_43, lit_45, lit_41, lit_123, lit_49, lit_58, lit_68]
  | succ w ih =>
    intro j fu act wi hj hfu hb
    obtain ⟨g, rfl⟩ : ∃ g, fu = g + 1 := ⟨fu - 1, by omega⟩
    have hby : vp_nar .byte (act (130 + j)) = act (130 + j) := hb j (by omega)
    obtain ⟨act', wi', c1, c2, c3⟩ := ih (j + 1) g (upd act j (act (130 + j))) (upd wi j (wi (130 + j))) (by omega) (by omega) (fun x hx => by rw [pk_un (by omega)]; exact hb x hx)
    refine ⟨act', wi', ?_, fun x h1 h2 => ?_, fun x h1 => ?_⟩
    · rw [f_Mo_readText_L105]
      simp (disch := omega) only [n_lt, n_le, n_eq, n_cl, n_sub, nI_add, pk_mul, n_subL, n_Lsub, n_neN, n_Nne, n_leN, n_ltN, n_Nlt, n_Nle, le_T, le_F, lt_T, lt_F, eq_T, eq_F, true_or, or_true, false_or, or_false, true_and, and_true, false_and, and_false, and_self, or_self, not_true_eq_false, not_false_eq_true, decide_eq_true_eq, decide_true, decide_false, Bool.false_eq_true, Bool.true_eq_false, eq_self, ↓reduceIte, Option.bind_some, mo_in, lit_0, lit_1, lit_2, lit_3, lit_4, lit_5, lit_6, lit_7, lit_8, lit_9, lit_10, lit_11, lit_12, lit_13, lit_14, lit_15, lit_16, lit_20, lit_22, lit_24, lit_28, lit_30, lit_31, lit_32, lit_39, lit_40, lit_42, lit_48, lit_50, lit_57, lit_60, lit_61, lit_62, lit_63, lit_64, lit_100, lit_120, lit_121, lit_122, lit_128, lit_130, lit_255, lit_256, lit_360, lit_1024, lit_2147483647, m1_pred, Nat.add_sub_cancel, lit_124, lit_38, lit_37, lit_33, lit_126, lit_59, lit_112, lit_108, lit_110, lit_104, lit_47, lit_43, lit_45, lit_41, lit_123, lit_49, lit_58, lit_68, Nat.mul_zero, Nat.zero_add, hby]
      simpa only [lit_0] using c1
    · by_cases h3 : x = j
      · subst h3
        rw [(c3 x (by omega)).1, (c3 x (by omega)).2, pk_us, pk_us]
        exact ⟨rfl, rfl⟩
      · rw [(c2 x (by omega) h2).1, (c2 x (by omega) h2).2, pk_un (by omega), pk_un (by omega)]
        exact ⟨rfl, rfl⟩
    · rw [(c3 x (by omega)).1, (c3 x (by omega)).2, pk_un (by omega), pk_un (by omega)]
      exact ⟨rfl, rfl⟩
theorem copy_ends {h f op la : Int32} {LM act wi : Nat → Int32} {n : Nat} (hl : n ≤ 61) (hL : LM 0 = nI n) : ∀ (w j fu : Nat) (TE LE : Nat → Int32), j + w = n → w < fu → (∀ x, x < n → ∃ y z : Nat, y < 32768 ∧ z < 32768 ∧ TE (61 + x) = nI y ∧ LE (61 + x) = nI z) → ∃ TE' LE' : Nat → Int32, f_Mo_readText_L177 fu (nI 0) (nI j) (nI 0) h f op la LM TE act wi LE = some (-nI 1, nI 0, h, f, op, la, LM, TE', act, wi, LE') ∧ (∀ x, j ≤ x → x < n → TE' x = TE (61 + x) ∧ LE' x = LE (61 + x)) ∧ (∀ x, x < j → TE' x = TE x ∧ LE' x = LE x) := by
  have hs : ∀ y : Nat, y < 32768 → vp_nar .short (nI y) = nI y := fun y hy => by
    have h1 : (nI y).toInt = y := nI_toInt (by omega)
    exact fb_short (by rw [h1]; omega) (by rw [h1]; omega)
  intro w
  induction w with
  | zero =>
    intro j fu TE LE hj hfu hb
    obtain ⟨g, rfl⟩ : ∃ g, fu = g + 1 := ⟨fu - 1, by omega⟩
    refine ⟨TE, LE, ?_, fun x _ _ => by omega, fun x _ => ⟨rfl, rfl⟩⟩
    rw [f_Mo_readText_L177]
    simp (disch := omega) only [n_lt, n_le, n_eq, n_cl, n_sub, nI_add, pk_mul, n_subL, n_Lsub, n_neN, n_Nne, n_leN, n_ltN, n_Nlt, n_Nle, le_T, le_F, lt_T, lt_F, eq_T, eq_F, true_or, or_true, false_or, or_false, true_and, and_true, false_and, and_false, and_self, or_self, not_true_eq_false, not_false_eq_true, decide_eq_true_eq, decide_true, decide_false, Bool.false_eq_true, Bool.true_eq_false, eq_self, ↓reduceIte, Option.bind_some, mo_in, lit_0, lit_1, lit_2, lit_3, lit_4, lit_5, lit_6, lit_7, lit_8, lit_9, lit_10, lit_11, lit_12, lit_13, lit_14, lit_15, lit_16, lit_20, lit_22, lit_24, lit_28, lit_30, lit_31, lit_32, lit_39, lit_40, lit_42, lit_48, lit_50, lit_57, lit_60, lit_61, lit_62, lit_63, lit_64, lit_100, lit_120, lit_121, lit_122, lit_128, lit_130, lit_255, lit_256, lit_360, lit_1024, lit_2147483647, m1_pred, Nat.add_sub_cancel, lit_124, lit_38, lit_37, lit_33, lit_126, lit_59, lit_112, lit_108, lit_110, lit_104, lit_47, lit_43, lit_45, lit_41, lit_123, lit_49, lit_58, lit_68, hL]
  | succ w ih =>
    intro j fu TE LE hj hfu hb
    obtain ⟨g, rfl⟩ : ∃ g, fu = g + 1 := ⟨fu - 1, by omega⟩
    obtain ⟨y, z, hy, hz, e1, e2⟩ := hb j (by omega)
    obtain ⟨TE', LE', c1, c2, c3⟩ := ih (j + 1) g (upd TE j (nI y)) (upd LE j (nI z)) (by omega) (by omega) (fun x hx => by rw [pk_un (by omega), pk_un (by omega)]; exact hb x hx)
    refine ⟨TE', LE', ?_, fun x h1 h2 => ?_, fun x h1 => ?_⟩
    · rw [f_Mo_readText_L177]
      simp (disch := omega) only [n_lt, n_le, n_eq, n_cl, n_sub, nI_add, pk_mul, n_subL, n_Lsub, n_neN, n_Nne, n_leN, n_ltN, n_Nlt, n_Nle, le_T, le_F, lt_T, lt_F, eq_T, eq_F, true_or, or_true, false_or, or_false, true_and, and_true, false_and, and_false, and_self, or_self, not_true_eq_false, not_false_eq_true, decide_eq_true_eq, decide_true, decide_false, Bool.false_eq_true, Bool.true_eq_false, eq_self, ↓reduceIte, Option.bind_some, mo_in, lit_0, lit_1, lit_2, lit_3, lit_4, lit_5, lit_6, lit_7, lit_8, lit_9, lit_10, lit_11, lit_12, lit_13, lit_14, lit_15, lit_16, lit_20, lit_22, lit_24, lit_28, lit_30, lit_31, lit_32, lit_39, lit_40, lit_42, lit_48, lit_50, lit_57, lit_60, lit_61, lit_62, lit_63, lit_64, lit_100, lit_120, lit_121, lit_122, lit_128, lit_130, lit_255, lit_256, lit_360, lit_1024, lit_2147483647, m1_pred, Nat.add_sub_cancel, lit_124, lit_38, lit_37, lit_33, lit_126, lit_59, lit_112, lit_108, lit_110, lit_104, lit_47, lit_43, lit_45, lit_41, lit_123, lit_49, lit_58, lit_68, hL, Nat.mul_zero, Nat.zero_add, e1, e2, hs]
      simpa only [lit_0] using c1
    · by_cases h3 : x = j
      · subst h3
        rw [(c3 x (by omega)).1, (c3 x (by omega)).2, pk_us, pk_us, e1, e2]
        exact ⟨rfl, rfl⟩
      · rw [(c2 x (by omega) h2).1, (c2 x (by omega) h2).2, pk_un (by omega), pk_un (by omega)]
        exact ⟨rfl, rfl⟩
    · rw [(c3 x (by omega)).1, (c3 x (by omega)).2, pk_un (by omega), pk_un (by omega)]
      exact ⟨rfl, rfl⟩
