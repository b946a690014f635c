/-! PURE: a search begun; the game -/
theorem th_begin {lines : List (List Int32 × List Int32)} {code act with_ lineMany testEnd lineEnd : Nat → Int32} {len : Int32} {hasLaw : Bool} (hS : lw_S lines code len hasLaw act with_ lineMany testEnd lineEnd) {n p k : Nat} (hn : n ≤ 4) {pic night s0 l1 p1 n1 s1 op a tp : Int32} {had told h1 t1 as fo : Nat → Int64} {last often la1 of1 sk : Nat → Int32} (hc : cwk p k (bitw had) last pic night had last) (hC : lw_C lines a as fo) : ∃ o w t la of a' as' fo' tp' sk', f_Th_beginSearch op (nI n) pic night s0 l1 p1 n1 s1 h1 had t1 told last la1 often of1 a as fo len tp code sk = some (nI o, nI n, pic, night, s0, w, t, la, of, a', as', fo', tp', sk') ∧ cwk p k (bitw had) last pic night w la ∧ (∀ q, q < 1024 → (bitw t q || decide (lw_lines (lw_env n q) lines ≠ 0)) = (bitw told q || decide (lw_lines (lw_env n q) lines ≠ 0))) ∧ lw_C lines a' as' fo' ∧ ∀ i, o.testBit i = (decide (i < 2 ^ n) && !(bitw told i || decide (lw_lines (lw_env n i) lines ≠ 0))) := by
  obtain ⟨w, t, la, of, e1, hc2, ht⟩ := th_become (l0 := nI n) (s0 := s0) (l1 := l1) (p1 := p1) (n1 := n1) (s1 := s1) (h1 := h1) (t1 := t1) (told := told) (often := often) (la1 := la1) (of1 := of1) hc
  have hpow := p_pow (show n ≤ 10 by omega)
  have hp16 : 2 ^ n ≤ 2 ^ 4 := Nat.pow_le_pow_right (by decide) hn
  have loop : ∀ (e q fu o : Nat) (a tp : Int32) (as fo : Nat → Int64) (sk : Nat → Int32), q + e = 2 ^ n → e < fu → lw_C lines a as fo → (∀ i, o.testBit i = (decide (i < q) && !(bitw told i || decide (lw_lines (lw_env n i) lines ≠ 0)))) → ∃ o' a' as' fo' tp' sk', f_Th_beginSearch_L15 fu (nI q) (nI o) (nI n) pic night s0 w t la of a as fo len tp code sk = some (nI o', nI n, pic, night, s0, w, t, la, of, a', as', fo', tp', sk') ∧ lw_C lines a' as' fo' ∧ ∀ i, o'.testBit i = (decide (i < 2 ^ n) && !(bitw told i || decide (lw_lines (lw_env n i) lines ≠ 0))) := by
    intro e
    induction e with
    | zero =>
      intro q fu o a tp as fo sk hq hfu hC ho
      obtain ⟨g, rfl⟩ : ∃ g, fu = g + 1 := ⟨fu - 1, by omega⟩
      obtain rfl : q = 2 ^ n := by omega
      have e2 := wa_pic (show 2 ^ n < 2147483648 by omega) (show n ≤ 10 by omega)
      refine ⟨o, a, as, fo, tp, sk, ?_, hC, ho⟩
      rw [f_Th_beginSearch_L15]
      simp (disch := omega) only [n_lt, n_le, n_eq, n_cl, n_sub, nI_add, pk_mul, n_subL, n_Lsub, n_neN, n_Nne, n_leN, n_ltN, n_Nlt, n_Nle, le_T, le_F, lt_T, lt_F, eq_T, eq_F, true_or, or_true, false_or, or_false, true_and, and_true, false_and, and_false, and_self, or_self, not_true_eq_false, not_false_eq_true, decide_eq_true_eq, decide_true, decide_false, Bool.false_eq_true, Bool.true_eq_false, eq_self, ↓reduceIte, Option.bind_some, mo_in, lit_0, lit_1, lit_2, lit_3, lit_4, lit_5, lit_6, lit_7, lit_8, lit_9, lit_10, lit_11, lit_12, lit_13, lit_14, lit_15, lit_16, lit_20, lit_22, lit_24, lit_28, lit_30, lit_31, lit_32, lit_39, lit_40, lit_42, lit_48, lit_50, lit_57, lit_60, lit_61, lit_62, lit_63, lit_64, lit_100, lit_120, lit_121, lit_122, lit_128, lit_130, lit_255, lit_256, lit_360, lit_1024, lit_2147483647, m1_pred, Nat.add_sub_cancel, lit_124, lit_38, lit_37, lit_33, lit_126, lit_59, lit_112, lit_108, lit_110, lit_104, lit_47, lit_43, lit_45, lit_41, lit_123, lit_49, lit_58, lit_68, e2]
    | succ e ih =>
      intro q fu o a tp as fo sk hq hfu hC ho
      obtain ⟨g, rfl⟩ : ∃ g, fu = g + 1 := ⟨fu - 1, by omega⟩
      have e2 := wa_pic (show q < 2147483648 by omega) (show n ≤ 10 by omega)
      obtain ⟨as1, fo1, tp1, sk1, e3, hC1⟩ := ru_barred hS (show q < 1024 by omega) (show n ≤ 10 by omega) hC t tp sk
      rw [ht q (by omega)] at e3
      cases hb : (bitw told q || decide (lw_lines (lw_env n q) lines ≠ 0)) with
      | true =>
        rw [hb] at e3
        obtain ⟨o', a', as', fo', tp', sk', d1, d2, d3⟩ := ih (q + 1) g o (nI n) tp1 as1 fo1 sk1 (by omega) (by omega) hC1 (fun i => by
          rw [ho i]
          by_cases h : i = q
          · subst h; rw [hb]; simp
          · rw [show decide (i < q + 1) = decide (i < q) from decide_eq_decide.mpr (by omega)])
        refine ⟨o', a', as', fo', tp', sk', ?_, d2, d3⟩
        rw [← d1, f_Th_beginSearch_L15]
        simp (disch := omega) only [n_lt, n_le, n_eq, n_cl, n_sub, nI_add, pk_mul, n_subL, n_Lsub, n_neN, n_Nne, n_leN, n_ltN, n_Nlt, n_Nle, le_T, le_F, lt_T, lt_F, eq_T, eq_F, true_or, or_true, false_or, or_false, true_and, and_true, false_and, and_false, and_self, or_self, not_true_eq_false, not_false_eq_true, decide_eq_true_eq, decide_true, decide_false, Bool.false_eq_true, Bool.true_eq_false, eq_self, ↓reduceIte, Option.bind_some, mo_in, lit_0, lit_1, lit_2, lit_3, lit_4, lit_5, lit_6, lit_7, lit_8, lit_9, lit_10, lit_11, lit_12, lit_13, lit_14, lit_15, lit_16, lit_20, lit_22, lit_24, lit_28, lit_30, lit_31, lit_32, lit_39, lit_40, lit_42, lit_48, lit_50, lit_57, lit_60, lit_61, lit_62, lit_63, lit_64, lit_100, lit_120, lit_121, lit_122, lit_128, lit_130, lit_255, lit_256, lit_360, lit_1024, lit_2147483647, m1_pred, Nat.add_sub_cancel, lit_124, lit_38, lit_37, lit_33, lit_126, lit_59, lit_112, lit_108, lit_110, lit_104, lit_47, lit_43, lit_45, lit_41, lit_123, lit_49, lit_58, lit_68, e2, e3, f_Th_beginSearch_L56]
      | false =>
        rw [hb] at e3
        obtain ⟨o', a', as', fo', tp', sk', d1, d2, d3⟩ := ih (q + 1) g (o ||| 2 ^ q) (nI n) tp1 as1 fo1 sk1 (by omega) (by omega) hC1 (fun i => by
          rw [fb_bit_set, ho i]
          by_cases h : i = q
          · subst h; rw [hb]; simp
          · rw [show decide (i < q + 1) = decide (i < q) from decide_eq_decide.mpr (by omega)]; simp [h])
        refine ⟨o', a', as', fo', tp', sk', ?_, d2, d3⟩
        rw [← d1, f_Th_beginSearch_L15]
        simp (disch := omega) only [n_lt, n_le, n_eq, n_cl, n_sub, nI_add, pk_mul, n_subL, n_Lsub, n_neN, n_Nne, n_leN, n_ltN, n_Nlt, n_Nle, le_T, le_F, lt_T, lt_F, eq_T, eq_F, true_or, or_true, false_or, or_false, true_and, and_true, false_and, and_false, and_self, or_self, not_true_eq_false, not_false_eq_true, decide_eq_true_eq, decide_true, decide_false, Bool.false_eq_true, Bool.true_eq_false, eq_self, ↓reduceIte, Option.bind_some, mo_in, lit_0, lit_1, lit_2, lit_3, lit_4, lit_5, lit_6, lit_7, lit_8, lit_9, lit_10, lit_11, lit_12, lit_13, lit_14, lit_15, lit_16, lit_20, lit_22, lit_24, lit_28, lit_30, lit_31, lit_32, lit_39, lit_40, lit_42, lit_48, lit_50, lit_57, lit_60, lit_61, lit_62, lit_63, lit_64, lit_100, lit_120, lit_121, lit_122, lit_128, lit_130, lit_255, lit_256, lit_360, lit_1024, lit_2147483647, m1_pred, Nat.add_sub_cancel, lit_124, lit_38, lit_37, lit_33, lit_126, lit_59, lit_112, lit_108, lit_110, lit_104, lit_47, lit_43, lit_45, lit_41, lit_123, lit_49, lit_58, lit_68, e2, e3, q_shl, fa_or, f_Th_beginSearch_L56]
  obtain ⟨o', a', as', fo', tp', sk', d1, d2, d3⟩ := loop (2 ^ n) 0 3000 0 a tp as fo sk (by omega) (by omega) hC (fun i => by simp)
  refine ⟨o', w, t, la, of, a', as', fo', tp', sk', ?_, hc2, fun q hq => by rw [ht q hq], d2, d3⟩
  simp (disch := omega) only [n_lt, n_le, n_eq, n_cl, n_sub, nI_add, pk_mul, n_subL, n_Lsub, n_neN, n_Nne, n_leN, n_ltN, n_Nlt, n_Nle, le_T, le_F, lt_T, lt_F, eq_T, eq_F, true_or, or_true, false_or, or_false, true_and, and_true, false_and, and_false, and_self, or_self, not_true_eq_false, not_false_eq_true, decide_eq_true_eq, decide_true, decide_false, Bool.false_eq_true, Bool.true_eq_false, eq_self, ↓reduceIte, Option.bind_some, mo_in, lit_0, lit_1, lit_2, lit_3, lit_4, lit_5, lit_6, lit_7, lit_8, lit_9, lit_10, lit_11, lit_12, lit_13, lit_14, lit_15, lit_16, lit_20, lit_22, lit_24, lit_28, lit_30, lit_31, lit_32, lit_39, lit_40, lit_42, lit_48, lit_50, lit_57, lit_60, lit_61, lit_62, lit_63, lit_64, lit_100, lit_120, lit_121, lit_122, lit_128, lit_130, lit_255, lit_256, lit_360, lit_1024, lit_2147483647, m1_pred, Nat.add_sub_cancel, lit_124, lit_38, lit_37, lit_33, lit_126, lit_59, lit_112, lit_108, lit_110, lit_104, lit_47, lit_43, lit_45, lit_41, lit_123, lit_49, lit_58, lit_68, f_Th_beginSearch, e1]
  exact d1
/-- the pictures of the wall that were not had -/
def fre (n : Nat) (H : Nat → Bool) : Nat := fb_ct (fun r => !H r) (2 ^ n)
theorem fre_step {n q : Nat} {H : Nat → Bool} (hq : q < 2 ^ n) (h : H q = false) : fre n (hs H q) + 1 = fre n H := by
  have e := fb_ct_upd (fun r => !H r) false hq
  simp only [h] at e
  unfold fre
  rw [← fb_ct_cong (p := fun k => if k = q then false else !H k) (q := fun r => !hs H q r)]
  · simpa using e
  · intro r hr
    unfold hs
    by_cases e : r = q
    · simp [e]
    · simp [e]
theorem fre_lt {n p : Nat} {H : Nat → Bool} (hp : p < 2 ^ n) (h : H p = true) : fre n H < 2 ^ n := by
  have h1 := fb_ct_le (fun r => !H r) (2 ^ n)
  have h2 : ¬ fb_ct (fun r => !H r) (2 ^ n) = 2 ^ n := fun z => by
    have := fb_ct_all.mp z p hp
    simp [h] at this
  unfold fre
  omega
def gfst (f : Nat → Bool) : Nat → Nat → Option Nat
  | 0, _ => none
  | e + 1, l => if f l = true then some l else gfst f e (l + 1)
/-- the first lamp by which who begins wins -/
def gwin (n : Nat) (rest shy : Int32) (B : Nat → Bool) : Nat → Nat → Nat → (Nat → Bool) → (Nat → Int32) → Option Nat
  | 0, _, _, _, _ => none
  | d + 1, p, k, H, la => gfst (fun l => al n rest shy B p k H la l && (gwin n rest shy B d (p ^^^ 2 ^ l) (k + 1) (hs H (p ^^^ 2 ^ l)) (upd la l (nI (k + 1)))).isNone) n 0
def oI : Option Nat → Int32
  | none => -nI 2
  | some l => nI l
theorem gfst_lt (f : Nat → Bool) : ∀ (e l j : Nat), gfst f e l = some j → j < l + e
  | 0, l, j, h => by cases h
  | e + 1, l, j, h => by
    rw [gfst] at h
    by_cases c : f l = true
    · rw [if_pos c] at h; cases h; omega
    · rw [if_neg c] at h; have := gfst_lt f e (l + 1) j h; omega
theorem gwin_lt {n : Nat} {rest shy : Int32} {B : Nat → Bool} {d p k : Nat} {H : Nat → Bool} {la : Nat → Int32} {j : Nat} (h : gwin n rest shy B d p k H la = some j) : j < n := by
  cases d with
  | zero => cases h
  | succ d => have := gfst_lt _ _ _ _ h; omega
theorem oI_not {x : Option Nat} (h : ∀ j, x = some j → j < 2147483648) : (oI x = -nI 2) = (x.isNone = true) := by
  cases x with
  | none => simp [oI]
  | some j => rw [oI, n_neN (h j rfl) (by omega) (by omega)]; simp
theorem cl_win {lines : List (List Int32 × List Int32)} {code act with_ lineMany testEnd lineEnd : Nat → Int32} {len : Int32} {hasLaw : Bool} (hS : lw_S lines code len hasLaw act with_ lineMany testEnd lineEnd) {n : Nat} {B : Nat → Bool} {rest shy : Int32} {told : Nat → Int64} (hB : ∀ q, q < 1024 → (bitw told q || decide (lw_lines (lw_env n q) lines ≠ 0)) = B q) : ∀ (d fu dep p k : Nat) (H : Nat → Bool) (la : Nat → Int32) (pic night a tp : Int32) (w as fo : Nat → Int64) (last sk : Nat → Int32), d < fu → dep + d = 16 → vd n p k la → k + d < 1000 → cwk p k H la pic night w last → lw_C lines a as fo → ∃ pic' night' last' a' w' as' fo' tp' sk', f_Th_seekWin fu (nI dep) (nI n) pic night last rest shy a w as fo len tp code sk told = some (oI (gwin n rest shy B d p k H la), pic', night', last', a', w', as', fo', tp', sk') ∧ cwk p k H la pic' night' w' last' ∧ lw_C lines a' as' fo' := by
  intro d
  induction d with
  | zero =>
    intro fu dep p k H la pic night a tp w as fo last sk hfu hdep hv hk hw hC
    obtain ⟨f, rfl⟩ : ∃ f, fu = f + 1 := ⟨fu - 1, by omega⟩
    refine ⟨pic, night, last, a, w, as, fo, tp, sk, ?_, hw, hC⟩
    rw [f_Th_seekWin, f_Th_seekWin_body]
    simp (disch := omega) only [n_lt, n_le, n_eq, n_cl, n_sub, nI_add, pk_mul, n_subL, n_Lsub, n_neN, n_Nne, n_leN, n_ltN, n_Nlt, n_Nle, le_T, le_F, lt_T, lt_F, eq_T, eq_F, true_or, or_true, false_or, or_false, true_and, and_true, false_and, and_false, and_self, or_self, not_true_eq_false, not_false_eq_true, decide_eq_true_eq, decide_true, decide_false, Bool.false_eq_true, Bool.true_eq_false, eq_self, ↓reduceIte, Option.bind_some, mo_in, lit_0, lit_1, lit_2, lit_3, lit_4, lit_5, lit_6, lit_7, lit_8, lit_9, lit_10, lit_11, lit_12, lit_13, lit_14, lit_15, lit_16, lit_20, lit_22, lit_24, lit_28, lit_30, lit_31, lit_32, lit_39, lit_40, lit_42, lit_48, lit_50, lit_57, lit_60, lit_61, lit_62, lit_63, lit_64, lit_100, lit_120, lit_121, lit_122, lit_128, lit_130, lit_255, lit_256, lit_360, lit_1024, lit_2147483647, m1_pred, Nat.add_sub_cancel, lit_124, lit_38, lit_37, lit_33, lit_126, lit_59, lit_112, lit_108, lit_110, lit_104, lit_47, lit_43, lit_45, lit_41, lit_123, lit_49, lit_58, lit_68]
    rfl
  | succ d ih =>
    intro fu dep p k H la pic night a tp w as fo last sk hfu hdep hv hk hw hC
    obtain ⟨f, rfl⟩ : ∃ f, fu = f + 1 := ⟨fu - 1, by omega⟩
    have h10 := hv.2.1
    have loop : ∀ (e l fu : Nat) (pic night a tp : Int32) (w as fo : Nat → Int64) (last sk : Nat → Int32), l + e = n → e < fu → cwk p k H la pic night w last → lw_C lines a as fo → ∃ pic' night' last' a' w' as' fo' tp' sk', f_Th_seekWin_L11 (f_Th_seekWin f) fu (nI dep) (nI l) (nI n) pic night last rest shy a w as fo len tp code sk told = some (oI (gfst (fun l => al n rest shy B p k H la l && (gwin n rest shy B d (p ^^^ 2 ^ l) (k + 1) (hs H (p ^^^ 2 ^ l)) (upd la l (nI (k + 1)))).isNone) e l), pic', night', last', a', w', as', fo', tp', sk') ∧ cwk p k H la pic' night' w' last' ∧ lw_C lines a' as' fo' := by
      intro e
      induction e with
      | zero =>
        intro l fu pic night a tp w as fo last sk hl hfu hw hC
        obtain ⟨g, rfl⟩ : ∃ g, fu = g + 1 := ⟨fu - 1, by omega⟩
        refine ⟨pic, night, last, a, w, as, fo, tp, sk, ?_, hw, hC⟩
        rw [f_Th_seekWin_L11]
        simp (disch := omega) only [n_lt, n_le, n_eq, n_cl, n_sub, nI_add, pk_mul, n_subL, n_Lsub, n_neN, n_Nne, n_leN, n_ltN, n_Nlt, n_Nle, le_T, le_F, lt_T, lt_F, eq_T, eq_F, true_or, or_true, false_or, or_false, true_and, and_true, false_and, and_false, and_self, or_self, not_true_eq_false, not_false_eq_true, decide_eq_true_eq, decide_true, decide_false, Bool.false_eq_true, Bool.true_eq_false, eq_self, ↓reduceIte, Option.bind_some, mo_in, lit_0, lit_1, lit_2, lit_3, lit_4, lit_5, lit_6, lit_7, lit_8, lit_9, lit_10, lit_11, lit_12, lit_13, lit_14, lit_15, lit_16, lit_20, lit_22, lit_24, lit_28, lit_30, lit_31, lit_32, lit_39, lit_40, lit_42, lit_48, lit_50, lit_57, lit_60, lit_61, lit_62, lit_63, lit_64, lit_100, lit_120, lit_121, lit_122, lit_128, lit_130, lit_255, lit_256, lit_360, lit_1024, lit_2147483647, m1_pred, Nat.add_sub_cancel, lit_124, lit_38, lit_37, lit_33, lit_126, lit_59, lit_112, lit_108, lit_110, lit_104, lit_47, lit_43, lit_45, lit_41, lit_123, lit_49, lit_58, lit_68]
        rfl
      | succ e ihe =>
        intro l fu pic night a tp w as fo last sk hl hfu hw hC
        obtain ⟨g, rfl⟩ : ∃ g, fu = g + 1 := ⟨fu - 1, by omega⟩
        obtain ⟨a1, as1, fo1, tp1, sk1, c1, hC1⟩ := ru_allow (l := l) hS hv (by omega) hw hB hC tp sk (rest := rest) (shy := shy)
        rw [f_Th_seekWin_L11, gfst]
        cases hal : al n rest shy B p k H la l with
        | false =>
          rw [hal] at c1
          obtain ⟨pic', night', last', a', w', as', fo', tp', sk', d1, d2, d3⟩ := ihe (l + 1) g pic night a1 tp1 w as1 fo1 last sk1 (by omega) (by omega) hw hC1
          refine ⟨pic', night', last', a', w', as', fo', tp', sk', ?_, d2, d3⟩
          simp (disch := omega) only [n_lt, n_le, n_eq, n_cl, n_sub, nI_add, pk_mul, n_subL, n_Lsub, n_neN, n_Nne, n_leN, n_ltN, n_Nlt, n_Nle, le_T, le_F, lt_T, lt_F, eq_T, eq_F, true_or, or_true, false_or, or_false, true_and, and_true, false_and, and_false, and_self, or_self, not_true_eq_false, not_false_eq_true, decide_eq_true_eq, decide_true, decide_false, Bool.false_eq_true, Bool.true_eq_false, eq_self, ↓reduceIte, Option.bind_some, mo_in, lit_0, lit_1, lit_2, lit_3, lit_4, lit_5, lit_6, lit_7, lit_8, lit_9, lit_10, lit_11, lit_12, lit_13, lit_14, lit_15, lit_16, lit_20, lit_22, lit_24, lit_28, lit_30, lit_31, lit_32, lit_39, lit_40, lit_42, lit_48, lit_50, lit_57, lit_60, lit_61, lit_62, lit_63, lit_64, lit_100, lit_120, lit_121, lit_122, lit_128, lit_130, lit_255, lit_256, lit_360, lit_1024, lit_2147483647, m1_pred, Nat.add_sub_cancel, lit_124, lit_38, lit_37, lit_33, lit_126, lit_59, lit_112, lit_108, lit_110, lit_104, lit_47, lit_43, lit_45, lit_41, lit_123, lit_49, lit_58, lit_68, c1, f_Th_seekWin_L89, Bool.false_and, Bool.true_and]
          exact d1
        | true =>
          rw [hal] at c1
          obtain ⟨pic1, night1, last1, w1, s1, s2, s3⟩ := cl_go (l := l) hv (by omega) hw
          have hv1 := vd_step (l := l) hv (by omega) (by omega)
          obtain ⟨pic2, night2, last2, a2, w2, as2, fo2, tp2, sk2, r1, r2, r3⟩ := ih f (dep + 1) (p ^^^ 2 ^ l) (k + 1) (hs H (p ^^^ 2 ^ l)) (upd la l (nI (k + 1))) pic1 night1 a1 tp1 w1 as1 fo1 last1 sk1 (by omega) (by omega) hv1 (by omega) s3 hC1
          obtain ⟨pic3, night3, w3, last3, b1, b2⟩ := cl_back hv (by omega) (al_new hal) r2
          have hno := oI_not (x := gwin n rest shy B d (p ^^^ 2 ^ l) (k + 1) (hs H (p ^^^ 2 ^ l)) (upd la l (nI (k + 1)))) (fun j hj => by have := gwin_lt hj; omega)
          cases hw2 : (gwin n rest shy B d (p ^^^ 2 ^ l) (k + 1) (hs H (p ^^^ 2 ^ l)) (upd la l (nI (k + 1)))).isNone with
          | true =>
            rw [hw2] at hno
            refine ⟨pic3, night3, last3, a2, w3, as2, fo2, tp2, sk2, ?_, b2, r3⟩
            simp (disch := omega) only [n_lt, n_le, n_eq, n_cl, n_sub, nI_add, pk_mul, n_subL, n_Lsub, n_neN, n_Nne, n_leN, n_ltN, n_Nlt, n_Nle, le_T, le_F, lt_T, lt_F, eq_T, eq_F, true_or, or_true, false_or, or_false, true_and, and_true, false_and, and_false, and_self, or_self, not_true_eq_false, not_false_eq_true, decide_eq_true_eq, decide_true, decide_false, Bool.false_eq_true, Bool.true_eq_false, eq_self, ↓reduceIte, Option.bind_some, mo_in, lit_0, lit_1, lit_2, lit_3, lit_4, lit_5, lit_6, lit_7, lit_8, lit_9, lit_10, lit_11, lit_12, lit_13, lit_14, lit_15, lit_16, lit_20, lit_22, lit_24, lit_28, lit_30, lit_31, lit_32, lit_39, lit_40, lit_42, lit_48, lit_50, lit_57, lit_60, lit_61, lit_62, lit_63, lit_64, lit_100, lit_120, lit_121, lit_122, lit_128, lit_130, lit_255, lit_256, lit_360, lit_1024, lit_2147483647, m1_pred, Nat.add_sub_cancel, lit_124, lit_38, lit_37, lit_33, lit_126, lit_59, lit_112, lit_108, lit_110, lit_104, lit_47, lit_43, lit_45, lit_41, lit_123, lit_49, lit_58, lit_68, c1, s1, s2, r1, hno, f_Th_seekWin_L70, b1, Bool.false_and, Bool.true_and]
            rfl
          | false =>
            rw [hw2] at hno
            obtain ⟨pic', night', last', a', w', as', fo', tp', sk', d1, d2, d3⟩ := ihe (l + 1) g pic3 night3 a2 tp2 w3 as2 fo2 last3 sk2 (by omega) (by omega) b2 r3
            refine ⟨pic', night', last', a', w', as', fo', tp', sk', ?_, d2, d3⟩
            simp (disch := omega) only [n_lt, n_le, n_eq, n_cl, n_sub, nI_add, pk_mul, n_subL, n_Lsub, n_neN, n_Nne, n_leN, n_ltN, n_Nlt, n_Nle, le_T, le_F, lt_T, lt_F, eq_T, eq_F, true_or, or_true, false_or, or_false, true_and, and_true, false_and, and_false, and_self, or_self, not_true_eq_false, not_false_eq_true, decide_eq_true_eq, decide_true, decide_false, Bool.false_eq_true, Bool.true_eq_false, eq_self, ↓reduceIte, Option.bind_some, mo_in, lit_0, lit_1, lit_2, lit_3, lit_4, lit_5, lit_6, lit_7, lit_8, lit_9, lit_10, lit_11, lit_12, lit_13, lit_14, lit_15, lit_16, lit_20, lit_22, lit_24, lit_28, lit_30, lit_31, lit_32, lit_39, lit_40, lit_42, lit_48, lit_50, lit_57, lit_60, lit_61, lit_62, lit_63, lit_64, lit_100, lit_120, lit_121, lit_122, lit_128, lit_130, lit_255, lit_256, lit_360, lit_1024, lit_2147483647, m1_pred, Nat.add_sub_cancel, lit_124, lit_38, lit_37, lit_33, lit_126, lit_59, lit_112, lit_108, lit_110, lit_104, lit_47, lit_43, lit_45, lit_41, lit_123, lit_49, lit_58, lit_68, c1, s1, s2, r1, hno, f_Th_seekWin_L70, b1, f_Th_seekWin_L89, Bool.false_and, Bool.true_and]
            exact d1
    obtain ⟨pic', night', last', a', w', as', fo', tp', sk', d1, d2, d3⟩ := loop n 0 3000 pic night a tp w as fo last sk (by omega) (by omega) hw hC
    refine ⟨pic', night', last', a', w', as', fo', tp', sk', ?_, d2, d3⟩
    rw [f_Th_seekWin, f_Th_seekWin_body]
    simp (disch := omega) only [n_lt, n_le, n_eq, n_cl, n_sub, nI_add, pk_mul, n_subL, n_Lsub, n_neN, n_Nne, n_leN, n_ltN, n_Nlt, n_Nle, le_T, le_F, lt_T, lt_F, eq_T, eq_F, true_or, or_true, false_or, or_false, true_and, and_true, false_and, and_false, and_self, or_self, not_true_eq_false, not_false_eq_true, decide_eq_true_eq, decide_true, decide_false, Bool.false_eq_true, Bool.true_eq_false, eq_self, ↓reduceIte, Option.bind_some, mo_in, lit_0, lit_1, lit_2, lit_3, lit_4, lit_5, lit_6, lit_7, lit_8, lit_9, lit_10, lit_11, lit_12, lit_13, lit_14, lit_15, lit_16, lit_20, lit_22, lit_24, lit_28, lit_30, lit_31, lit_32, lit_39, lit_40, lit_42, lit_48, lit_50, lit_57, lit_60, lit_61, lit_62, lit_63, lit_64, lit_100, lit_120, lit_121, lit_122, lit_128, lit_130, lit_255, lit_256, lit_360, lit_1024, lit_2147483647, m1_pred, Nat.add_sub_cancel, lit_124, lit_38, lit_37, lit_33, lit_126, lit_59, lit_112, lit_108, lit_110, lit_104, lit_47, lit_43, lit_45, lit_41, lit_123, lit_49, lit_58, lit_68]
    exact d1
theorem mo_wins {n : Nat} {B : Nat → Bool} {rest shy : Int32} {barred : Nat → Int32} (hB : ∀ q, q < 2 ^ n → barred q = b2i (B q)) : ∀ (d fu p k : Nat) (H : Nat → Bool) (la : Nat → Int32) (at_ night : Int32) (mhad mlast : Nat → Int32), d ≤ fu → fre n H < d → vd n p k la → k + d < 1000 → mwk p k H la at_ night mhad mlast → ∃ at' night' mhad' mlast', f_Mo_wins fu (nI n) at_ night rest shy mhad barred mlast = some ((gwin n rest shy B d p k H la).isSome, at', night', mhad', mlast') ∧ mwk p k H la at' night' mhad' mlast' := by
  intro d
  induction d with
  | zero => intro fu p k H la at_ night mhad mlast hfu hfr; omega
  | succ d ih =>
    intro fu p k H la at_ night mhad mlast hfu hfr hv hk hw
    obtain ⟨f, rfl⟩ : ∃ f, fu = f + 1 := ⟨fu - 1, by omega⟩
    have h10 := hv.2.1
    have loop : ∀ (e l fu : Nat) (at_ night : Int32) (mhad mlast : Nat → Int32), l + e = n → e < fu → mwk p k H la at_ night mhad mlast → ∃ at' night' mhad' mlast', f_Mo_wins_L2 (f_Mo_wins f) fu (nI l) (nI n) at_ night rest shy mhad barred mlast = some ((gfst (fun l => al n rest shy B p k H la l && (gwin n rest shy B d (p ^^^ 2 ^ l) (k + 1) (hs H (p ^^^ 2 ^ l)) (upd la l (nI (k + 1)))).isNone) e l).isSome, at', night', mhad', mlast') ∧ mwk p k H la at' night' mhad' mlast' := by
      intro e
      induction e with
      | zero =>
        intro l fu at_ night mhad mlast hl hfu hw
        obtain ⟨g, rfl⟩ : ∃ g, fu = g + 1 := ⟨fu - 1, by omega⟩
        refine ⟨at_, night, mhad, mlast, ?_, hw⟩
        rw [f_Mo_wins_L2]
        simp (disch := omega) only [n_lt, n_le, n_eq, n_cl, n_sub, nI_add, pk_mul, n_subL, n_Lsub, n_neN, n_Nne, n_leN, n_ltN, n_Nlt, n_Nle, le_T, le_F, lt_T, lt_F, eq_T, eq_F, true_or, or_true, false_or, or_false, true_and, and_true, false_and, and_false, and_self, or_self, not_true_eq_false, not_false_eq_true, decide_eq_true_eq, decide_true, decide_false, Bool.false_eq_true, Bool.true_eq_false, eq_self, ↓reduceIte, Option.bind_some, mo_in, lit_0, lit_1, lit_2, lit_3, lit_4, lit_5, lit_6, lit_7, lit_8, lit_9, lit_10, lit_11, lit_12, lit_13, lit_14, lit_15, lit_16, lit_20, lit_22, lit_24, lit_28, lit_30, lit_31, lit_32, lit_39, lit_40, lit_42, lit_48, lit_50, lit_57, lit_60, lit_61, lit_62, lit_63, lit_64, lit_100, lit_120, lit_121, lit_122, lit_128, lit_130, lit_255, lit_256, lit_360, lit_1024, lit_2147483647, m1_pred, Nat.add_sub_cancel, lit_124, lit_38, lit_37, lit_33, lit_126, lit_59, lit_112, lit_108, lit_110, lit_104, lit_47, lit_43, lit_45, lit_41, lit_123, lit_49, lit_58, lit_68]
        rfl
      | succ e ihe =>
        intro l fu at_ night mhad mlast hl hfu hw
        obtain ⟨g, rfl⟩ : ∃ g, fu = g + 1 := ⟨fu - 1, by omega⟩
        have c1 := mo_may (l := l) hv (by omega) hw hB (rest := rest) (shy := shy)
        rw [f_Mo_wins_L2, gfst]
        cases hal : al n rest shy B p k H la l with
        | false =>
          rw [hal] at c1
          obtain ⟨at', night', mhad', mlast', d1, d2⟩ := ihe (l + 1) g at_ night mhad mlast (by omega) (by omega) hw
          refine ⟨at', night', mhad', mlast', ?_, d2⟩
          simp (disch := omega) only [n_lt, n_le, n_eq, n_cl, n_sub, nI_add, pk_mul, n_subL, n_Lsub, n_neN, n_Nne, n_leN, n_ltN, n_Nlt, n_Nle, le_T, le_F, lt_T, lt_F, eq_T, eq_F, true_or, or_true, false_or, or_false, true_and, and_true, false_and, and_false, and_self, or_self, not_true_eq_false, not_false_eq_true, decide_eq_true_eq, decide_true, decide_false, Bool.false_eq_true, Bool.true_eq_false, eq_self, ↓reduceIte, Option.bind_some, mo_in, lit_0, lit_1, lit_2, lit_3, lit_4, lit_5, lit_6, lit_7, lit_8, lit_9, lit_10, lit_11, lit_12, lit_13, lit_14, lit_15, lit_16, lit_20, lit_22, lit_24, lit_28, lit_30, lit_31, lit_32, lit_39, lit_40, lit_42, lit_48, lit_50, lit_57, lit_60, lit_61, lit_62, lit_63, lit_64, lit_100, lit_120, lit_121, lit_122, lit_128, lit_130, lit_255, lit_256, lit_360, lit_1024, lit_2147483647, m1_pred, Nat.add_sub_cancel, lit_124, lit_38, lit_37, lit_33, lit_126, lit_59, lit_112, lit_108, lit_110, lit_104, lit_47, lit_43, lit_45, lit_41, lit_123, lit_49, lit_58, lit_68, c1, f_Mo_wins_L44, Bool.false_and, Bool.true_and]
          exact d1
        | true =>
          rw [hal] at c1
          obtain ⟨at1, night1, mlast1, mhad1, s1, s3⟩ := mo_go (l := l) hv (by omega) hw
          have hv1 := vd_step (l := l) hv (by omega) (by omega)
          have hfr1 := fre_step (x_lt (l := l) hv.2.2.1 (by omega)) (al_new hal)
          obtain ⟨at2, night2, mhad2, mlast2, r1, r2⟩ := ih f (p ^^^ 2 ^ l) (k + 1) (hs H (p ^^^ 2 ^ l)) (upd la l (nI (k + 1))) at1 night1 mhad1 mlast1 (by omega) (by omega) hv1 (by omega) s3
          obtain ⟨at3, night3, mlast3, mhad3, b1, b2⟩ := mo_back hv (by omega) (al_new hal) r2
          cases hw2 : gwin n rest shy B d (p ^^^ 2 ^ l) (k + 1) (hs H (p ^^^ 2 ^ l)) (upd la l (nI (k + 1))) with
          | none =>
            rw [hw2] at r1
            refine ⟨at3, night3, mhad3, mlast3, ?_, b2⟩
            simp (disch := omega) only [n_lt, n_le, n_eq, n_cl, n_sub, nI_add, pk_mul, n_subL, n_Lsub, n_neN, n_Nne, n_leN, n_ltN, n_Nlt, n_Nle, le_T, le_F, lt_T, lt_F, eq_T, eq_F, true_or, or_true, false_or, or_false, true_and, and_true, false_and, and_false, and_self, or_self, not_true_eq_false, not_false_eq_true, decide_eq_true_eq, decide_true, decide_false, Bool.false_eq_true, Bool.true_eq_false, eq_self, ↓reduceIte, Option.bind_some, mo_in, lit_0, lit_1, lit_2, lit_3, lit_4, lit_5, lit_6, lit_7, lit_8, lit_9, lit_10, lit_11, lit_12, lit_13, lit_14, lit_15, lit_16, lit_20, lit_22, lit_24, lit_28, lit_30, lit_31, lit_32, lit_39, lit_40, lit_42, lit_48, lit_50, lit_57, lit_60, lit_61, lit_62, lit_63, lit_64, lit_100, lit_120, lit_121, lit_122, lit_128, lit_130, lit_255, lit_256, lit_360, lit_1024, lit_2147483647, m1_pred, Nat.add_sub_cancel, lit_124, lit_38, lit_37, lit_33, lit_126, lit_59, lit_112, lit_108, lit_110, lit_104, lit_47, lit_43, lit_45, lit_41, lit_123, lit_49, lit_58, lit_68, c1, s1, r1, b1, Option.isSome_none, Option.isSome_some, Option.isNone_none, Bool.true_and]
          | some j =>
            rw [hw2] at r1
            obtain ⟨at', night', mhad', mlast', d1, d2⟩ := ihe (l + 1) g at3 night3 mhad3 mlast3 (by omega) (by omega) b2
            refine ⟨at', night', mhad', mlast', ?_, d2⟩
            simp (disch := omega) only [n_lt, n_le, n_eq, n_cl, n_sub, nI_add, pk_mul, n_subL, n_Lsub, n_neN, n_Nne, n_leN, n_ltN, n_Nlt, n_Nle, le_T, le_F, lt_T, lt_F, eq_T, eq_F, true_or, or_true, false_or, or_false, true_and, and_true, false_and, and_false, and_self, or_self, not_true_eq_false, not_false_eq_true, decide_eq_true_eq, decide_true, decide_false, Bool.false_eq_true, Bool.true_eq_false, eq_self, ↓reduceIte, Option.bind_some, mo_in, lit_0, lit_1, lit_2, lit_3, lit_4, lit_5, lit_6, lit_7, lit_8, lit_9, lit_10, lit_11, lit_12, lit_13, lit_14, lit_15, lit_16, lit_20, lit_22, lit_24, lit_28, lit_30, lit_31, lit_32, lit_39, lit_40, lit_42, lit_48, lit_50, lit_57, lit_60, lit_61, lit_62, lit_63, lit_64, lit_100, lit_120, lit_121, lit_122, lit_128, lit_130, lit_255, lit_256, lit_360, lit_1024, lit_2147483647, m1_pred, Nat.add_sub_cancel, lit_124, lit_38, lit_37, lit_33, lit_126, lit_59, lit_112, lit_108, lit_110, lit_104, lit_47, lit_43, lit_45, lit_41, lit_123, lit_49, lit_58, lit_68, c1, s1, r1, b1, f_Mo_wins_L44, Option.isSome_some, Option.isNone_some, Bool.true_and]
            exact d1
    obtain ⟨at', night', mhad', mlast', d1, d2⟩ := loop n 0 3000 at_ night mhad mlast (by omega) (by omega) hw
    refine ⟨at', night', mhad', mlast', ?_, d2⟩
    rw [f_Mo_wins, f_Mo_wins_body]
    simp (disch := omega) only [n_lt, n_le, n_eq, n_cl, n_sub, nI_add, pk_mul, n_subL, n_Lsub, n_neN, n_Nne, n_leN, n_ltN, n_Nlt, n_Nle, le_T, le_F, lt_T, lt_F, eq_T, eq_F, true_or, or_true, false_or, or_false, true_and, and_true, false_and, and_false, and_self, or_self, not_true_eq_false, not_false_eq_true, decide_eq_true_eq, decide_true, decide_false, Bool.false_eq_true, Bool.true_eq_false, eq_self, ↓reduceIte, Option.bind_some, mo_in, lit_0, lit_1, lit_2, lit_3, lit_4, lit_5, lit_6, lit_7, lit_8, lit_9, lit_10, lit_11, lit_12, lit_13, lit_14, lit_15, lit_16, lit_20, lit_22, lit_24, lit_28, lit_30, lit_31, lit_32, lit_39, lit_40, lit_42, lit_48, lit_50, lit_57, lit_60, lit_61, lit_62, lit_63, lit_64, lit_100, lit_120, lit_121, lit_122, lit_128, lit_130, lit_255, lit_256, lit_360, lit_1024, lit_2147483647, m1_pred, Nat.add_sub_cancel, lit_124, lit_38, lit_37, lit_33, lit_126, lit_59, lit_112, lit_108, lit_110, lit_104, lit_47, lit_43, lit_45, lit_41, lit_123, lit_49, lit_58, lit_68]
    exact d1
theorem mo_game {n : Nat} {B : Nat → Bool} {rest shy spent : Int32} {barred often facts pile : Nat → Int32} (hB : ∀ q, q < 2 ^ n → barred q = b2i (B q)) {w p k : Nat} {H : Nat → Bool} {la : Nat → Int32} (hw1 : w ≤ 1) (hv : vd n p k la) (hk : k + 16 < 1000) (hfr : fre n H < 16) : ∀ (e l fu : Nat) (at_ night : Int32) (mhad mlast : Nat → Int32), l + e = n → e < fu → mwk p k H la at_ night mhad mlast → ∃ at' night' mhad' mlast', f_Mo_game_L32 fu (nI w) (nI l) (nI n) at_ night spent rest shy true mhad mlast often facts pile barred = some (if w = 0 then (if (gfst (fun l => al n rest shy B p k H la l && (gwin n rest shy B 15 (p ^^^ 2 ^ l) (k + 1) (hs H (p ^^^ 2 ^ l)) (upd la l (nI (k + 1)))).isNone) e l).isSome = true then nI 1 else nI 0) else oI (gfst (fun l => al n rest shy B p k H la l && (gwin n rest shy B 15 (p ^^^ 2 ^ l) (k + 1) (hs H (p ^^^ 2 ^ l)) (upd la l (nI (k + 1)))).isNone) e l), at', night', spent, true, mhad', mlast', often, facts, pile, barred) ∧ mwk p k H la at' night' mhad' mlast' := by
    have h10 := hv.2.1
    intro e
    induction e with
    | zero =>
      intro l fu at_ night mhad mlast hl hfu hw2
      obtain ⟨g, rfl⟩ : ∃ g, fu = g + 1 := ⟨fu - 1, by omega⟩
      refine ⟨at_, night, mhad, mlast, ?_, hw2⟩
      rw [f_Mo_game_L32]
      by_cases hw0 : w = 0
      · simp (disch := omega) only [n_lt, n_le, n_eq, n_cl, n_sub, nI_add, pk_mul, n_subL, n_Lsub, n_neN, n_Nne, n_leN, n_ltN, n_Nlt, n_Nle, le_T, le_F, lt_T, lt_F, eq_T, eq_F, true_or, or_true, false_or, or_false, true_and, and_true, false_and, and_false, and_self, or_self, not_true_eq_false, not_false_eq_true, decide_eq_true_eq, decide_true, decide_false, Bool.false_eq_true, Bool.true_eq_false, eq_self, ↓reduceIte, Option.bind_some, mo_in, lit_0, lit_1, lit_2, lit_3, lit_4, lit_5, lit_6, lit_7, lit_8, lit_9, lit_10, lit_11, lit_12, lit_13, lit_14, lit_15, lit_16, lit_20, lit_22, lit_24, lit_28, lit_30, lit_31, lit_32, lit_39, lit_40, lit_42, lit_48, lit_50, lit_57, lit_60, lit_61, lit_62, lit_63, lit_64, lit_100, lit_120, lit_121, lit_122, lit_128, lit_130, lit_255, lit_256, lit_360, lit_1024, lit_2147483647, m1_pred, Nat.add_sub_cancel, lit_124, lit_38, lit_37, lit_33, lit_126, lit_59, lit_112, lit_108, lit_110, lit_104, lit_47, lit_43, lit_45, lit_41, lit_123, lit_49, lit_58, lit_68, gfst, Option.isSome_none]
      · simp (disch := omega) only [n_lt, n_le, n_eq, n_cl, n_sub, nI_add, pk_mul, n_subL, n_Lsub, n_neN, n_Nne, n_leN, n_ltN, n_Nlt, n_Nle, le_T, le_F, lt_T, lt_F, eq_T, eq_F, true_or, or_true, false_or, or_false, true_and, and_true, false_and, and_false, and_self, or_self, not_true_eq_false, not_false_eq_true, decide_eq_true_eq, decide_true, decide_false, Bool.false_eq_true, Bool.true_eq_false, eq_self, ↓reduceIte, Option.bind_some, mo_in, lit_0, lit_1, lit_2, lit_3, lit_4, lit_5, lit_6, lit_7, lit_8, lit_9, lit_10, lit_11, lit_12, lit_13, lit_14, lit_15, lit_16, lit_20, lit_22, lit_24, lit_28, lit_30, lit_31, lit_32, lit_39, lit_40, lit_42, lit_48, lit_50, lit_57, lit_60, lit_61, lit_62, lit_63, lit_64, lit_100, lit_120, lit_121, lit_122, lit_128, lit_130, lit_255, lit_256, lit_360, lit_1024, lit_2147483647, m1_pred, Nat.add_sub_cancel, lit_124, lit_38, lit_37, lit_33, lit_126, lit_59, lit_112, lit_108, lit_110, lit_104, lit_47, lit_43, lit_45, lit_41, lit_123, lit_49, lit_58, lit_68, gfst, oI]
    | succ e ihe =>
      intro l fu at_ night mhad mlast hl hfu hw2
      obtain ⟨g, rfl⟩ : ∃ g, fu = g + 1 := ⟨fu - 1, by omega⟩
      have c1 := mo_may (l := l) hv (by omega) hw2 hB (rest := rest) (shy := shy)
      rw [f_Mo_game_L32, gfst]
      cases hal : al n rest shy B p k H la l with
      | false =>
        rw [hal] at c1
        obtain ⟨at', night', mhad', mlast', d1, d2⟩ := ihe (l + 1) g at_ night mhad mlast (by omega) (by omega) hw2
        refine ⟨at', night', mhad', mlast', ?_, d2⟩
        simp (disch := omega) only [n_lt, n_le, n_eq, n_cl, n_sub, nI_add, pk_mul, n_subL, n_Lsub, n_neN, n_Nne, n_leN, n_ltN, n_Nlt, n_Nle, le_T, le_F, lt_T, lt_F, eq_T, eq_F, true_or, or_true, false_or, or_false, true_and, and_true, false_and, and_false, and_self, or_self, not_true_eq_false, not_false_eq_true, decide_eq_true_eq, decide_true, decide_false, Bool.false_eq_true, Bool.true_eq_false, eq_self, ↓reduceIte, Option.bind_some, mo_in, lit_0, lit_1, lit_2, lit_3, lit_4, lit_5, lit_6, lit_7, lit_8, lit_9, lit_10, lit_11, lit_12, lit_13, lit_14, lit_15, lit_16, lit_20, lit_22, lit_24, lit_28, lit_30, lit_31, lit_32, lit_39, lit_40, lit_42, lit_48, lit_50, lit_57, lit_60, lit_61, lit_62, lit_63, lit_64, lit_100, lit_120, lit_121, lit_122, lit_128, lit_130, lit_255, lit_256, lit_360, lit_1024, lit_2147483647, m1_pred, Nat.add_sub_cancel, lit_124, lit_38, lit_37, lit_33, lit_126, lit_59, lit_112, lit_108, lit_110, lit_104, lit_47, lit_43, lit_45, lit_41, lit_123, lit_49, lit_58, lit_68, c1, f_Mo_game_L84, Bool.false_and]
        rw [d1]
      | true =>
        rw [hal] at c1
        obtain ⟨at1, night1, mlast1, mhad1, s1, s3⟩ := mo_go (l := l) hv (by omega) hw2
        have hv1 := vd_step (l := l) hv (by omega) (by omega)
        have hfr1 := fre_step (x_lt (l := l) hv.2.2.1 (by omega)) (al_new hal)
        obtain ⟨at2, night2, mhad2, mlast2, r1, r2⟩ := mo_wins (rest := rest) (shy := shy) hB 15 20 (p ^^^ 2 ^ l) (k + 1) (hs H (p ^^^ 2 ^ l)) (upd la l (nI (k + 1))) at1 night1 mhad1 mlast1 (by omega) (by omega) hv1 (by omega) s3
        obtain ⟨at3, night3, mlast3, mhad3, b1, b2⟩ := mo_back hv (by omega) (al_new hal) r2
        cases hg : gwin n rest shy B 15 (p ^^^ 2 ^ l) (k + 1) (hs H (p ^^^ 2 ^ l)) (upd la l (nI (k + 1))) with
        | none =>
          rw [hg] at r1
          refine ⟨at3, night3, mhad3, mlast3, ?_, b2⟩
          by_cases hw0 : w = 0
          · simp (disch := omega) only [n_lt, n_le, n_eq, n_cl, n_sub, nI_add, pk_mul, n_subL, n_Lsub, n_neN, n_Nne, n_leN, n_ltN, n_Nlt, n_Nle, le_T, le_F, lt_T, lt_F, eq_T, eq_F, true_or, or_true, false_or, or_false, true_and, and_true, false_and, and_false, and_self, or_self, not_true_eq_false, not_false_eq_true, decide_eq_true_eq, decide_true, decide_false, Bool.false_eq_true, Bool.true_eq_false, eq_self, ↓reduceIte, Option.bind_some, mo_in, lit_0, lit_1, lit_2, lit_3, lit_4, lit_5, lit_6, lit_7, lit_8, lit_9, lit_10, lit_11, lit_12, lit_13, lit_14, lit_15, lit_16, lit_20, lit_22, lit_24, lit_28, lit_30, lit_31, lit_32, lit_39, lit_40, lit_42, lit_48, lit_50, lit_57, lit_60, lit_61, lit_62, lit_63, lit_64, lit_100, lit_120, lit_121, lit_122, lit_128, lit_130, lit_255, lit_256, lit_360, lit_1024, lit_2147483647, m1_pred, Nat.add_sub_cancel, lit_124, lit_38, lit_37, lit_33, lit_126, lit_59, lit_112, lit_108, lit_110, lit_104, lit_47, lit_43, lit_45, lit_41, lit_123, lit_49, lit_58, lit_68, c1, s1, r1, b1, Option.isSome_none, Option.isSome_some, Option.isNone_none, Bool.true_and]
          · simp (disch := omega) only [n_lt, n_le, n_eq, n_cl, n_sub, nI_add, pk_mul, n_subL, n_Lsub, n_neN, n_Nne, n_leN, n_ltN, n_Nlt, n_Nle, le_T, le_F, lt_T, lt_F, eq_T, eq_F, true_or, or_true, false_or, or_false, true_and, and_true, false_and, and_false, and_self, or_self, not_true_eq_false, not_false_eq_true, decide_eq_true_eq, decide_true, decide_false, Bool.false_eq_true, Bool.true_eq_false, eq_self, ↓reduceIte, Option.bind_some, mo_in, lit_0, lit_1, lit_2, lit_3, lit_4, lit_5, lit_6, lit_7, lit_8, lit_9, lit_10, lit_11, lit_12, lit_13, lit_14, lit_15, lit_16, lit_20, lit_22, lit_24, lit_28, lit_30, lit_31, lit_32, lit_39, lit_40, lit_42, lit_48, lit_50, lit_57, lit_60, lit_61, lit_62, lit_63, lit_64, lit_100, lit_120, lit_121, lit_122, lit_128, lit_130, lit_255, lit_256, lit_360, lit_1024, lit_2147483647, m1_pred, Nat.add_sub_cancel, lit_124, lit_38, lit_37, lit_33, lit_126, lit_59, lit_112, lit_108, lit_110, lit_104, lit_47, lit_43, lit_45, lit_41, lit_123, lit_49, lit_58, lit_68, c1, s1, r1, b1, Option.isSome_none, Option.isSome_some, Option.isNone_none, Bool.true_and, oI]
        | some j =>
          rw [hg] at r1
          obtain ⟨at', night', mhad', mlast', d1, d2⟩ := ihe (l + 1) g at3 night3 mhad3 mlast3 (by omega) (by omega) b2
          refine ⟨at', night', mhad', mlast', ?_, d2⟩
          simp (disch := omega) only [n_lt, n_le, n_eq, n_cl, n_sub, nI_add, pk_mul, n_subL, n_Lsub, n_neN, n_Nne, n_leN, n_ltN, n_Nlt, n_Nle, le_T, le_F, lt_T, lt_F, eq_T, eq_F, true_or, or_true, false_or, or_false, true_and, and_true, false_and, and_false, and_self, or_self, not_true_eq_false, not_false_eq_true, decide_eq_true_eq, decide_true, decide_false, Bool.false_eq_true, Bool.true_eq_false, eq_self, ↓reduceIte, Option.bind_some, mo_in, lit_0, lit_1, lit_2, lit_3, lit_4, lit_5, lit_6, lit_7, lit_8, lit_9, lit_10, lit_11, lit_12, lit_13, lit_14, lit_15, lit_16, lit_20, lit_22, lit_24, lit_28, lit_30, lit_31, lit_32, lit_39, lit_40, lit_42, lit_48, lit_50, lit_57, lit_60, lit_61, lit_62, lit_63, lit_64, lit_100, lit_120, lit_121, lit_122, lit_128, lit_130, lit_255, lit_256, lit_360, lit_1024, lit_2147483647, m1_pred, Nat.add_sub_cancel, lit_124, lit_38, lit_37, lit_33, lit_126, lit_59, lit_112, lit_108, lit_110, lit_104, lit_47, lit_43, lit_45, lit_41, lit_123, lit_49, lit_58, lit_68, c1, s1, r1, b1, f_Mo_game_L84, Option.isSome_some, Option.isNone_some, Bool.and_false]
          rw [d1]
theorem ok_game {t : Nat} {x_L_wall_lamps : Int32} {x_L_wall_picture : Int32} {x_L_wall_night : Int32} {x_L_wall_spent : Int32} {x_L_wall_had_words : Nat → Int64} {x_L_wall_told_words : Nat → Int64} {x_L_wall_last : Nat → Int32} {x_L_wall_often : Nat → Int32} {x_M_lamps : Int32} {x_M_at : Int32} {x_M_night : Int32} {x_M_spent : Int32} {x_M_had : Nat → Int32} {x_M_told : Nat → Int32} {x_M_last : Nat → Int32} {x_M_often : Nat → Int32} {x_M_hasBegun : Bool} {x_L_rules_rest : Int32} {x_L_rules_shy : Int32} {x_M_rest : Int32} {x_M_shy : Int32} {x_L_rules_askedForLamps : Int32} {x_L_rules_asked_words : Nat → Int64} {x_L_rules_forbidden_words : Nat → Int64} {x_L_rules_law_code : Nat → Int32} {x_L_rules_law_length : Int32} {x_M_hasLaw : Bool} {x_M_act : Nat → Int32} {x_M_with : Nat → Int32} {x_M_lineMany : Nat → Int32} {x_M_testEnd : Nat → Int32} {x_M_lineEnd : Nat → Int32} {x_L_thought_open : Int32} {x_L_thought_wall_lamps : Int32} {x_L_thought_wall_picture : Int32} {x_L_thought_wall_night : Int32} {x_L_thought_wall_spent : Int32} {x_L_thought_wall_had_words : Nat → Int64} {x_L_thought_wall_told_words : Nat → Int64} {x_L_thought_wall_last : Nat → Int32} {x_L_thought_wall_often : Nat → Int32} {x_L_rules_law_top : Int32} {x_L_rules_law_stack : Nat → Int32} {x_M_facts : Nat → Int32} {x_M_pile : Nat → Int32} {x_M_barred : Nat → Int32} (ht : t < 64) (p1 : Int32) (hW : R_wall t x_L_wall_lamps x_L_wall_picture x_L_wall_night x_L_wall_spent x_L_wall_had_words x_L_wall_told_words x_L_wall_last x_L_wall_often x_M_lamps x_M_at x_M_night x_M_spent x_M_had x_M_told x_M_last x_M_often x_M_hasBegun) (hU : R_set x_L_rules_rest x_L_rules_shy x_M_rest x_M_shy) (hG : R_lw x_L_rules_askedForLamps x_L_rules_asked_words x_L_rules_forbidden_words x_L_rules_law_code x_L_rules_law_length x_M_hasLaw x_M_act x_M_with x_M_lineMany x_M_testEnd x_M_lineEnd) : ∃ (r : Int32) (u_L_thought_open : Int32) (u_L_thought_wall_lamps : Int32) (u_L_thought_wall_picture : Int32) (u_L_thought_wall_night : Int32) (u_L_thought_wall_spent : Int32) (u_L_thought_wall_had_words : Nat → Int64) (u_L_thought_wall_told_words : Nat → Int64) (u_L_thought_wall_last : Nat → Int32) (u_L_thought_wall_often : Nat → Int32) (u_L_rules_askedForLamps : Int32) (u_L_rules_asked_words : Nat → Int64) (u_L_rules_forbidden_words : Nat → Int64) (u_L_rules_law_top : Int32) (u_L_rules_law_stack : Nat → Int32) (u_M_at : Int32) (u_M_night : Int32) (u_M_spent : Int32) (u_M_hasBegun : Bool) (u_M_had : Nat → Int32) (u_M_last : Nat → Int32) (u_M_often : Nat → Int32) (u_M_facts : Nat → Int32) (u_M_pile : Nat → Int32) (u_M_barred : Nat → Int32), f_OL_game p1 x_L_wall_lamps x_L_wall_picture x_L_wall_night x_L_wall_spent x_L_thought_open x_L_thought_wall_lamps x_L_thought_wall_picture x_L_thought_wall_night x_L_thought_wall_spent x_L_thought_wall_had_words x_L_wall_had_words x_L_thought_wall_told_words x_L_wall_told_words x_L_wall_last x_L_thought_wall_last x_L_wall_often x_L_thought_wall_often x_L_rules_rest x_L_rules_shy x_L_rules_askedForLamps x_L_rules_asked_words x_L_rules_forbidden_words x_L_rules_law_length x_L_rules_law_top x_L_rules_law_code x_L_rules_law_stack = some (r, u_L_thought_open, u_L_thought_wall_lamps, u_L_thought_wall_picture, u_L_thought_wall_night, u_L_thought_wall_spent, u_L_thought_wall_had_words, u_L_thought_wall_told_words, u_L_thought_wall_last, u_L_thought_wall_often, u_L_rules_askedForLamps, u_L_rules_asked_words, u_L_rules_forbidden_words, u_L_rules_law_top, u_L_rules_law_stack) ∧ f_Mo_game p1 x_M_lamps x_M_at x_M_night x_M_spent x_M_rest x_M_shy x_M_hasBegun x_M_hasLaw x_M_had x_M_last x_M_often x_M_told x_M_facts x_M_lineMany x_M_testEnd x_M_act x_M_pile x_M_with x_M_lineEnd x_M_barred = some (r, u_M_at, u_M_night, u_M_spent, u_M_hasBegun, u_M_had, u_M_last, u_M_often, u_M_facts, u_M_pile, u_M_barred) ∧ R_wall t x_L_wall_lamps x_L_wall_picture x_L_wall_night x_L_wall_spent x_L_wall_had_words x_L_wall_told_words x_L_wall_last x_L_wall_often x_M_lamps u_M_at u_M_night u_M_spent u_M_had x_M_told u_M_last u_M_often u_M_hasBegun ∧ R_lw u_L_rules_askedForLamps u_L_rules_asked_words u_L_rules_forbidden_words x_L_rules_law_code x_L_rules_law_length x_M_hasLaw x_M_act x_M_with x_M_lineMany x_M_testEnd x_M_lineEnd ∧ (x_M_hasBegun = true → u_M_hasBegun = true) := by
  obtain ⟨mh, ml, mo, e0, hR⟩ := wall_ready hW
  obtain ⟨n, p, k, hk, rfl, rfl, hv, hc, hm, hT, hb1, hb2, _, _, _⟩ := wall_open ht hR
  have h10 := hv.2.1
  have h1 := hv.1
  have hp := hv.2.2.1
  have hpow := p_pow h10
  have hGx := hG
  obtain ⟨rfl, rfl⟩ := hU
  obtain ⟨lines, hS, hC⟩ := R_lw_of.mp hG
  rcases n_cases p1 with a | ⟨w, hw, rfl⟩
  · simp (disch := omega) only [n_lt, n_le, n_eq, n_cl, n_sub, nI_add, pk_mul, n_subL, n_Lsub, n_neN, n_Nne, n_leN, n_ltN, n_Nlt, n_Nle, le_T, le_F, lt_T, lt_F, eq_T, eq_F, true_or, or_true, false_or, or_false, true_and, and_true, false_and, and_false, and_self, or_self, not_true_eq_false, not_false_eq_true, decide_eq_true_eq, decide_true, decide_false, Bool.false_eq_true, Bool.true_eq_false, eq_self, ↓reduceIte, Option.bind_some, mo_in, lit_0, lit_1, lit_2, lit_3, lit_4, lit_5, lit_6, lit_7, lit_8, lit_9, lit_10, lit_11, lit_12, lit_13, lit_14, lit_15, lit_16, lit_20, lit_22, lit_24, lit_28, lit_30, lit_31, lit_32, lit_39, lit_40, lit_42, lit_48, lit_50, lit_57, lit_60, lit_61, lit_62, lit_63, lit_64, lit_100, lit_120, lit_121, lit_122, lit_128, lit_130, lit_255, lit_256, lit_360, lit_1024, lit_2147483647, f_OL_game, f_Mo_game, e0, m_lt a, m_le a, m_gt a, m_ge a, m_eq a]
    exact ⟨_, _, _, _, _, _, _, _, _, _, _, _, _, _, _, _, _, _, _, _, _, _, _, _, _, rfl, rfl, hR, hGx, fun _ => rfl⟩
  by_cases hw1 : w ≤ 1
  rotate_left
  · simp (disch := omega) only [n_lt, n_le, n_eq, n_cl, n_sub, nI_add, pk_mul, n_subL, n_Lsub, n_neN, n_Nne, n_leN, n_ltN, n_Nlt, n_Nle, le_T, le_F, lt_T, lt_F, eq_T, eq_F, true_or, or_true, false_or, or_false, true_and, and_true, false_and, and_false, and_self, or_self, not_true_eq_false, not_false_eq_true, decide_eq_true_eq, decide_true, decide_false, Bool.false_eq_true, Bool.true_eq_false, eq_self, ↓reduceIte, Option.bind_some, mo_in, lit_0, lit_1, lit_2, lit_3, lit_4, lit_5, lit_6, lit_7, lit_8, lit_9, lit_10, lit_11, lit_12, lit_13, lit_14, lit_15, lit_16, lit_20, lit_22, lit_24, lit_28, lit_30, lit_31, lit_32, lit_39, lit_40, lit_42, lit_48, lit_50, lit_57, lit_60, lit_61, lit_62, lit_63, lit_64, lit_100, lit_120, lit_121, lit_122, lit_128, lit_130, lit_255, lit_256, lit_360, lit_1024, lit_2147483647, f_OL_game, f_Mo_game, e0]
    exact ⟨_, _, _, _, _, _, _, _, _, _, _, _, _, _, _, _, _, _, _, _, _, _, _, _, _, rfl, rfl, hR, hGx, fun _ => rfl⟩
  by_cases hn4 : n ≤ 4
  rotate_left
  · simp (disch := omega) only [n_lt, n_le, n_eq, n_cl, n_sub, nI_add, pk_mul, n_subL, n_Lsub, n_neN, n_Nne, n_leN, n_ltN, n_Nlt, n_Nle, le_T, le_F, lt_T, lt_F, eq_T, eq_F, true_or, or_true, false_or, or_false, true_and, and_true, false_and, and_false, and_self, or_self, not_true_eq_false, not_false_eq_true, decide_eq_true_eq, decide_true, decide_false, Bool.false_eq_true, Bool.true_eq_false, eq_self, ↓reduceIte, Option.bind_some, mo_in, lit_0, lit_1, lit_2, lit_3, lit_4, lit_5, lit_6, lit_7, lit_8, lit_9, lit_10, lit_11, lit_12, lit_13, lit_14, lit_15, lit_16, lit_20, lit_22, lit_24, lit_28, lit_30, lit_31, lit_32, lit_39, lit_40, lit_42, lit_48, lit_50, lit_57, lit_60, lit_61, lit_62, lit_63, lit_64, lit_100, lit_120, lit_121, lit_122, lit_128, lit_130, lit_255, lit_256, lit_360, lit_1024, lit_2147483647, f_OL_game, f_Mo_game, e0]
    exact ⟨_, _, _, _, _, _, _, _, _, _, _, _, _, _, _, _, _, _, _, _, _, _, _, _, _, rfl, rfl, hR, hGx, fun _ => rfl⟩
  obtain ⟨fa, pi, ba, e1, hB⟩ := mo_find hS h10 hT x_M_facts x_M_pile x_M_barred
  obtain ⟨o, wv, t', la, of, a1, as1, fo1, tp1, sk1, e2, hc2, ht2, hC1, _⟩ := th_begin (op := x_L_thought_open) (s0 := x_L_wall_spent) (l1 := x_L_thought_wall_lamps) (p1 := x_L_thought_wall_picture) (n1 := x_L_thought_wall_night) (s1 := x_L_thought_wall_spent) (h1 := x_L_thought_wall_had_words) (t1 := x_L_thought_wall_told_words) (told := x_L_wall_told_words) (often := x_L_wall_often) (la1 := x_L_thought_wall_last) (of1 := x_L_thought_wall_often) (tp := x_L_rules_law_top) (sk := x_L_rules_law_stack) hS hn4 hc hC
  obtain ⟨pic', night', last', a', w', as', fo', tp', sk', e3, _, hC'⟩ := cl_win (B := fun q => bitw x_L_wall_told_words q || decide (lw_lines (lw_env n q) lines ≠ 0)) (rest := x_M_rest) (shy := x_M_shy) (told := t') hS ht2 16 20 0 p k (bitw x_L_wall_had_words) x_L_wall_last x_L_wall_picture x_L_wall_night a1 tp1 wv as1 fo1 la sk1 (by omega) (by omega) hv (by omega) hc2 hC1
  have hp16 : 2 ^ n ≤ 2 ^ 4 := Nat.pow_le_pow_right (by decide) hn4
  have hfr := fre_lt hp hb1
  obtain ⟨at', night2, mhad', mlast', e4, hm'⟩ := mo_game (B := fun q => bitw x_L_wall_told_words q || decide (lw_lines (lw_env n q) lines ≠ 0)) (rest := x_M_rest) (shy := x_M_shy) (spent := x_M_spent) (often := mo) (facts := fa) (pile := pi) hB hw1 hv (by omega) (by omega) n 0 3000 x_M_at x_M_night mh ml (by omega) (by omega) hm
  have e5 : gwin n x_M_rest x_M_shy (fun q => bitw x_L_wall_told_words q || decide (lw_lines (lw_env n q) lines ≠ 0)) 16 p k (bitw x_L_wall_had_words) x_L_wall_last = gfst (fun l => al n x_M_rest x_M_shy (fun q => bitw x_L_wall_told_words q || decide (lw_lines (lw_env n q) lines ≠ 0)) p k (bitw x_L_wall_had_words) x_L_wall_last l && (gwin n x_M_rest x_M_shy (fun q => bitw x_L_wall_told_words q || decide (lw_lines (lw_env n q) lines ≠ 0)) 15 (p ^^^ 2 ^ l) (k + 1) (hs (bitw x_L_wall_had_words) (p ^^^ 2 ^ l)) (upd x_L_wall_last l (nI (k + 1)))).isNone) n 0 := rfl
  rw [← e5] at e4
  have hno := oI_not (x := gwin n x_M_rest x_M_shy (fun q => bitw x_L_wall_told_words q || decide (lw_lines (lw_env n q) lines ≠ 0)) 16 p k (bitw x_L_wall_had_words) x_L_wall_last) (fun j hj => by have := gwin_lt hj; omega)
  by_cases hw0 : w = 0
  · rw [if_pos hw0] at e4
    cases hx : gwin n x_M_rest x_M_shy (fun q => bitw x_L_wall_told_words q || decide (lw_lines (lw_env n q) lines ≠ 0)) 16 p k (bitw x_L_wall_had_words) x_L_wall_last with
    | none =>
      rw [hx] at e3 e4 hno
      simp (disch := omega) only [n_lt, n_le, n_eq, n_cl, n_sub, nI_add, pk_mul, n_subL, n_Lsub, n_neN, n_Nne, n_leN, n_ltN, n_Nlt, n_Nle, le_T, le_F, lt_T, lt_F, eq_T, eq_F, true_or, or_true, false_or, or_false, true_and, and_true, false_and, and_false, and_self, or_self, not_true_eq_false, not_false_eq_true, decide_eq_true_eq, decide_true, decide_false, Bool.false_eq_true, Bool.true_eq_false, eq_self, ↓reduceIte, Option.bind_some, mo_in, lit_0, lit_1, lit_2, lit_3, lit_4, lit_5, lit_6, lit_7, lit_8, lit_9, lit_10, lit_11, lit_12, lit_13, lit_14, lit_15, lit_16, lit_20, lit_22, lit_24, lit_28, lit_30, lit_31, lit_32, lit_39, lit_40, lit_42, lit_48, lit_50, lit_57, lit_60, lit_61, lit_62, lit_63, lit_64, lit_100, lit_120, lit_121, lit_122, lit_128, lit_130, lit_255, lit_256, lit_360, lit_1024, lit_2147483647, f_OL_game, f_Th_gameFrom, f_Mo_game, e0, e1, e2, e3, e4, oI, Option.isSome_none]
      exact ⟨_, _, _, _, _, _, _, _, _, _, _, _, _, _, _, _, _, _, _, _, _, _, _, _, _, rfl, rfl, wall_same hR hc hm', R_lw_of.mpr ⟨lines, hS, hC'⟩, fun _ => rfl⟩
    | some j =>
      have := gwin_lt hx
      rw [hx] at e3 e4 hno
      simp (disch := omega) only [n_lt, n_le, n_eq, n_cl, n_sub, nI_add, pk_mul, n_subL, n_Lsub, n_neN, n_Nne, n_leN, n_ltN, n_Nlt, n_Nle, le_T, le_F, lt_T, lt_F, eq_T, eq_F, true_or, or_true, false_or, or_false, true_and, and_true, false_and, and_false, and_self, or_self, not_true_eq_false, not_false_eq_true, decide_eq_true_eq, decide_true, decide_false, Bool.false_eq_true, Bool.true_eq_false, eq_self, ↓reduceIte, Option.bind_some, mo_in, lit_0, lit_1, lit_2, lit_3, lit_4, lit_5, lit_6, lit_7, lit_8, lit_9, lit_10, lit_11, lit_12, lit_13, lit_14, lit_15, lit_16, lit_20, lit_22, lit_24, lit_28, lit_30, lit_31, lit_32, lit_39, lit_40, lit_42, lit_48, lit_50, lit_57, lit_60, lit_61, lit_62, lit_63, lit_64, lit_100, lit_120, lit_121, lit_122, lit_128, lit_130, lit_255, lit_256, lit_360, lit_1024, lit_2147483647, f_OL_game, f_Th_gameFrom, f_Mo_game, e0, e1, e2, e3, e4, oI, Option.isSome_some]
      exact ⟨_, _, _, _, _, _, _, _, _, _, _, _, _, _, _, _, _, _, _, _, _, _, _, _, _, rfl, rfl, wall_same hR hc hm', R_lw_of.mpr ⟨lines, hS, hC'⟩, fun _ => rfl⟩
  · rw [if_neg hw0] at e4
    simp (disch := omega) only [n_lt, n_le, n_eq, n_cl, n_sub, nI_add, pk_mul, n_subL, n_Lsub, n_neN, n_Nne, n_leN, n_ltN, n_Nlt, n_Nle, le_T, le_F, lt_T, lt_F, eq_T, eq_F, true_or, or_true, false_or, or_false, true_and, and_true, false_and, and_false, and_self, or_self, not_true_eq_false, not_false_eq_true, decide_eq_true_eq, decide_true, decide_false, Bool.false_eq_true, Bool.true_eq_false, eq_self, ↓reduceIte, Option.bind_some, mo_in, lit_0, lit_1, lit_2, lit_3, lit_4, lit_5, lit_6, lit_7, lit_8, lit_9, lit_10, lit_11, lit_12, lit_13, lit_14, lit_15, lit_16, lit_20, lit_22, lit_24, lit_28, lit_30, lit_31, lit_32, lit_39, lit_40, lit_42, lit_48, lit_50, lit_57, lit_60, lit_61, lit_62, lit_63, lit_64, lit_100, lit_120, lit_121, lit_122, lit_128, lit_130, lit_255, lit_256, lit_360, lit_1024, lit_2147483647, f_OL_game, f_Th_gameFrom, f_Mo_game, e0, e1, e2, e3, e4]
    exact ⟨_, _, _, _, _, _, _, _, _, _, _, _, _, _, _, _, _, _, _, _, _, _, _, _, _, rfl, rfl, wall_same hR hc hm', R_lw_of.mpr ⟨lines, hS, hC'⟩, fun _ => rfl⟩
