/-! PURE: longest -/
def lgl (f : Nat → List Nat → List Nat) : Nat → Nat → List Nat → List Nat
  | 0, _, b => b
  | e + 1, l, b => lgl f e (l + 1) (f l b)
def lgb (way best : List Nat) : List Nat := if best.length < way.length then way else best
/-- the longest way on, the first by rows of lamps -/
def lgo (n : Nat) (rest shy : Int32) (B : Nat → Bool) : Nat → List Nat → Nat → Nat → (Nat → Bool) → (Nat → Int32) → List Nat → List Nat
  | 0, way, _, _, _, _, best => lgb way best
  | d + 1, way, p, k, H, la, best => lgl (fun l b => if al n rest shy B p k H la l = true then lgo n rest shy B d (way ++ [l]) (p ^^^ 2 ^ l) (k + 1) (hs H (p ^^^ 2 ^ l)) (upd la l (nI (k + 1))) b else b) n 0 (lgb way best)
theorem lgl_same {f : Nat → List Nat → List Nat} {b : List Nat} {N : Nat} (h : ∀ l, l < N → f l b = b) : ∀ (e l : Nat), l + e ≤ N → lgl f e l b = b
  | 0, l, _ => rfl
  | e + 1, l, hl => by rw [lgl, h l (by omega)]; exact lgl_same h e (l + 1) (by omega)
theorem lgl_len {f : Nat → List Nat → List Nat} {M : Nat} (h : ∀ l b, b.length ≤ M → (f l b).length ≤ M) : ∀ (e l : Nat) (b : List Nat), b.length ≤ M → (lgl f e l b).length ≤ M
  | 0, l, b, hb => hb
  | e + 1, l, b, hb => lgl_len h e (l + 1) (f l b) (h l b hb)
theorem lgb_same {way best : List Nat} (h : way.length ≤ best.length) : lgb way best = best := by
  unfold lgb; rw [if_neg (by omega)]
theorem lgb_ge (way best : List Nat) : way.length ≤ (lgb way best).length := by
  unfold lgb
  by_cases c : best.length < way.length
  · rw [if_pos c]; exact Nat.le_refl _
  · rw [if_neg c]; omega
theorem lgb_len {way best : List Nat} {M : Nat} (h1 : way.length ≤ M) (h2 : best.length ≤ M) : (lgb way best).length ≤ M := by
  unfold lgb
  by_cases c : best.length < way.length
  · rw [if_pos c]; exact h1
  · rw [if_neg c]; exact h2
theorem lgo_len {n : Nat} {rest shy : Int32} {B : Nat → Bool} : ∀ (d : Nat) (way : List Nat) (p k : Nat) (H : Nat → Bool) (la : Nat → Int32) (best : List Nat), way.length + d ≤ 15 → best.length ≤ 15 → (lgo n rest shy B d way p k H la best).length ≤ 15
  | 0, way, p, k, H, la, best, h1, h2 => lgb_len (by omega) h2
  | d + 1, way, p, k, H, la, best, h1, h2 => by
    rw [lgo]
    refine lgl_len (fun l b hb => ?_) n 0 _ (lgb_len (by omega) h2)
    by_cases c : al n rest shy B p k H la l = true
    · rw [if_pos c]; exact lgo_len d _ _ _ _ _ _ (by simp; omega) hb
    · rw [if_neg c]; exact hb
/-- no way through R betters what is found -/
theorem lgo_skip {n : Nat} {rest shy : Int32} {B : Nat → Bool} (hn : n ≤ 4) : ∀ (d : Nat) (way : List Nat) (p k : Nat) (H : Nat → Bool) (la : Nat → Int32) (best : List Nat) (R : Nat → Bool), p < 2 ^ n → good n p H B R → way.length + mst (cnt R (!par p)) (cnt R (par p)) ≤ best.length → lgo n rest shy B d way p k H la best = best := by
  intro d
  induction d with
  | zero => intro way p k H la best R hp hg h; exact lgb_same (by omega)
  | succ d ih =>
    intro way p k H la best R hp hg h
    rw [lgo, lgb_same (by omega)]
    refine lgl_same (N := n) (fun l hl => ?_) n 0 (by omega)
    cases hal : al n rest shy B p k H la l with
    | false => simp
    | true =>
      obtain ⟨g1, g2⟩ := good_step hl hp hg (al_new hal) (al_bar hal)
      obtain ⟨c1, c2⟩ := cnt_less hl hn hp g1
      have m := mst_step c1 c2
      rw [if_pos rfl]
      exact ih (way ++ [l]) (p ^^^ 2 ^ l) (k + 1) _ _ best (less R (p ^^^ 2 ^ l)) (x_lt hp hl) g2 (by simp; omega)
def rep (f : Nat → Int32) (w : List Nat) : Prop := ∀ j x, w[j]? = some x → f j = nI x
theorem rep_add {f : Nat → Int32} {w : List Nat} {l : Nat} (h : rep f w) : rep (upd f w.length (nI l)) (w ++ [l]) := by
  intro j x hj
  by_cases c : j < w.length
  · rw [List.getElem?_append_left c] at hj
    rw [pk_un (by omega)]
    exact h j x hj
  · rw [List.getElem?_append_right (by omega)] at hj
    have hl := (List.getElem?_eq_some_iff.mp hj).1
    have e : j = w.length := by simp at hl; omega
    subst e
    rw [Nat.sub_self] at hj
    have e2 : l = x := by simpa using hj
    rw [pk_us, e2]
theorem rep_cong {f g : Nat → Int32} {w : List Nat} (h : rep f w) (e : ∀ j, j < w.length → g j = f j) : rep g w := by
  intro j x hj
  rw [e j (List.getElem?_eq_some_iff.mp hj).1]
  exact h j x hj
theorem cl_longest {lines : List (List Int32 × List Int32)} {code act with_ lineMany testEnd lineEnd : Nat → Int32} {len : Int32} {hasLaw : Bool} (hS : lw_S lines code len hasLaw act with_ lineMany testEnd lineEnd) {n o : Nat} {B : Nat → Bool} {rest shy : Int32} {told : Nat → Int64} (hn : n ≤ 4) (hB : ∀ q, q < 1024 → (bitw told q || decide (lw_lines (lw_env n q) lines ≠ 0)) = B q) (ho : ∀ i, o.testBit i = (decide (i < 2 ^ n) && !B i)) : ∀ (d fu p k : Nat) (way best : List Nat) (H : Nat → Bool) (la : Nat → Int32) (pic night a tp : Int32) (w as fo : Nat → Int64) (last sk wa be : Nat → Int32), d < fu → way.length + d = 15 → best.length ≤ 15 → vd n p k la → H p = true → k + d < 1000 → cwk p k H la pic night w last → lw_C lines a as fo → rep wa way → rep be best → ∃ pic' night' last' a' w' as' fo' tp' sk' wa' be', f_Th_seekLongest fu (nI way.length) (nI best.length) (nI o) wa be (nI n) pic night w last rest shy a as fo len tp code sk told = some (nI (lgo n rest shy B d way p k H la best).length, wa', be', pic', night', w', last', a', as', fo', tp', sk') ∧ cwk p k H la pic' night' w' last' ∧ lw_C lines a' as' fo' ∧ rep be' (lgo n rest shy B d way p k H la best) ∧ ∀ j, j < way.length → wa' j = wa j := by
  -- what is found so far, the way here counted in
  have first : ∀ (f p k d : Nat) (way best : List Nat) (pic night a tp : Int32) (w as fo : Nat → Int64) (last sk wa be : Nat → Int32), way.length + d = 15 → rep wa way → rep be best → best.length ≤ 15 → ∃ be1, f_Th_seekLongest (f + 1) (nI way.length) (nI best.length) (nI o) wa be (nI n) pic night w last rest shy a as fo len tp code sk told = f_Th_seekLongest_L33 (f_Th_seekLongest f) (nI way.length) (nI (lgb way best).length) (nI o) wa be1 (nI n) pic night w last rest shy a as fo len tp code sk told ∧ rep be1 (lgb way best) := by
    intro f p k d way best pic night a tp w as fo last sk wa be hd hwa hbe hbl
    rw [f_Th_seekLongest, f_Th_seekLongest_body]
    by_cases c : best.length < way.length
    · have e1 : lgb way best = way := by unfold lgb; rw [if_pos c]
      rw [e1]
      refine ⟨va_cpy wa be 0 0 way.length, ?_, fun j x hj => ?_⟩
      · simp (disch := omega) only [n_lt, n_le, n_eq, n_cl, n_sub, nI_add, pk_mul, n_subL, n_Lsub, n_neN, n_Nne, n_leN, n_ltN, n_Nlt, n_Nle, le_T, le_F, lt_T, lt_F, eq_T, eq_F, true_or, or_true, false_or, or_false, true_and, and_true, false_and, and_false, and_self, or_self, not_true_eq_false, not_false_eq_true, decide_eq_true_eq, decide_true, decide_false, Bool.false_eq_true, Bool.true_eq_false, eq_self, ↓reduceIte, Option.bind_some, mo_in, lit_0, lit_1, lit_2, lit_3, lit_4, lit_5, lit_6, lit_7, lit_8, lit_9, lit_10, lit_11, lit_12, lit_13, lit_14, lit_15, lit_16, lit_20, lit_22, lit_24, lit_28, lit_30, lit_31, lit_32, lit_39, lit_40, lit_42, lit_48, lit_50, lit_57, lit_60, lit_61, lit_62, lit_63, lit_64, lit_100, lit_120, lit_121, lit_122, lit_128, lit_130, lit_255, lit_256, lit_360, lit_1024, lit_2147483647, m1_pred, Nat.add_sub_cancel, lit_124, lit_38, lit_37, lit_33, lit_126, lit_59, lit_112, lit_108, lit_110, lit_104, lit_47, lit_43, lit_45, lit_41, lit_123, lit_49, lit_58, lit_68]
      · have hl := (List.getElem?_eq_some_iff.mp hj).1
        rw [pk_cpy_in (by omega) (by omega), show 0 + (j - 0) = j by omega]
        exact hwa j x hj
    · have e1 : lgb way best = best := by unfold lgb; rw [if_neg c]
      rw [e1]
      refine ⟨be, ?_, hbe⟩
      simp (disch := omega) only [n_lt, n_le, n_eq, n_cl, n_sub, nI_add, pk_mul, n_subL, n_Lsub, n_neN, n_Nne, n_leN, n_ltN, n_Nlt, n_Nle, le_T, le_F, lt_T, lt_F, eq_T, eq_F, true_or, or_true, false_or, or_false, true_and, and_true, false_and, and_false, and_self, or_self, not_true_eq_false, not_false_eq_true, decide_eq_true_eq, decide_true, decide_false, Bool.false_eq_true, Bool.true_eq_false, eq_self, ↓reduceIte, Option.bind_some, mo_in, lit_0, lit_1, lit_2, lit_3, lit_4, lit_5, lit_6, lit_7, lit_8, lit_9, lit_10, lit_11, lit_12, lit_13, lit_14, lit_15, lit_16, lit_20, lit_22, lit_24, lit_28, lit_30, lit_31, lit_32, lit_39, lit_40, lit_42, lit_48, lit_50, lit_57, lit_60, lit_61, lit_62, lit_63, lit_64, lit_100, lit_120, lit_121, lit_122, lit_128, lit_130, lit_255, lit_256, lit_360, lit_1024, lit_2147483647, m1_pred, Nat.add_sub_cancel, lit_124, lit_38, lit_37, lit_33, lit_126, lit_59, lit_112, lit_108, lit_110, lit_104, lit_47, lit_43, lit_45, lit_41, lit_123, lit_49, lit_58, lit_68]
  intro d
  induction d with
  | zero =>
    intro fu p k way best H la pic night a tp w as fo last sk wa be hfu hd hbl hv hpH hk hw hC hwa hbe
    obtain ⟨f, rfl⟩ : ∃ f, fu = f + 1 := ⟨fu - 1, by omega⟩
    obtain ⟨be1, e1, hb1⟩ := first f p k 0 way best pic night a tp w as fo last sk wa be hd hwa hbe hbl
    refine ⟨pic, night, last, a, w, as, fo, tp, sk, wa, be1, ?_, hw, hC, hb1, fun _ _ => rfl⟩
    rw [e1, f_Th_seekLongest_L33]
    simp (disch := omega) only [n_lt, n_le, n_eq, n_cl, n_sub, nI_add, pk_mul, n_subL, n_Lsub, n_neN, n_Nne, n_leN, n_ltN, n_Nlt, n_Nle, le_T, le_F, lt_T, lt_F, eq_T, eq_F, true_or, or_true, false_or, or_false, true_and, and_true, false_and, and_false, and_self, or_self, not_true_eq_false, not_false_eq_true, decide_eq_true_eq, decide_true, decide_false, Bool.false_eq_true, Bool.true_eq_false, eq_self, ↓reduceIte, Option.bind_some, mo_in, lit_0, lit_1, lit_2, lit_3, lit_4, lit_5, lit_6, lit_7, lit_8, lit_9, lit_10, lit_11, lit_12, lit_13, lit_14, lit_15, lit_16, lit_20, lit_22, lit_24, lit_28, lit_30, lit_31, lit_32, lit_39, lit_40, lit_42, lit_48, lit_50, lit_57, lit_60, lit_61, lit_62, lit_63, lit_64, lit_100, lit_120, lit_121, lit_122, lit_128, lit_130, lit_255, lit_256, lit_360, lit_1024, lit_2147483647, m1_pred, Nat.add_sub_cancel, lit_124, lit_38, lit_37, lit_33, lit_126, lit_59, lit_112, lit_108, lit_110, lit_104, lit_47, lit_43, lit_45, lit_41, lit_123, lit_49, lit_58, lit_68]
    rfl
  | succ d ih =>
    intro fu p k way best H la pic night a tp w as fo last sk wa be hfu hd hbl hv hpH hk hw hC hwa hbe
    obtain ⟨f, rfl⟩ : ∃ f, fu = f + 1 := ⟨fu - 1, by omega⟩
    obtain ⟨be1, e1, hb1⟩ := first f p k (d + 1) way best pic night a tp w as fo last sk wa be hd hwa hbe hbl
    have hp := hv.2.2.1
    have h1 := hv.1
    have h16 : 2 ^ n ≤ 2 ^ 4 := Nat.pow_le_pow_right (by decide) hn
    obtain ⟨r, e2, hr, hg⟩ := th_reach h1 hn hp hw.2.2.1 hpH ho
    have e3 := th_most hr (show p < 16 by omega)
    have hpic := hw.1
    rw [← hpic] at e2 e3
    have l1 : cnt (fun q => r.testBit q) (!par p) ≤ 16 := fb_ct_le _ _
    have l2 : cnt (fun q => r.testBit q) (par p) ≤ 16 := fb_ct_le _ _
    obtain ⟨M, hM⟩ : ∃ M, M = mst (cnt (fun q => r.testBit q) (!par p)) (cnt (fun q => r.testBit q) (par p)) := ⟨_, rfl⟩
    have lm : M ≤ 40 := by
      rw [hM]
      unfold mst
      by_cases c : cnt (fun q => r.testBit q) (par p) < cnt (fun q => r.testBit q) (!par p)
      · rw [if_pos c]; omega
      · rw [if_neg c]; omega
    rw [← hM] at e3
    have hbl1 : (lgb way best).length ≤ 15 := lgb_len (by omega) hbl
    have hunf : lgo n rest shy B (d + 1) way p k H la best = lgl (fun l b => if al n rest shy B p k H la l = true then lgo n rest shy B d (way ++ [l]) (p ^^^ 2 ^ l) (k + 1) (hs H (p ^^^ 2 ^ l)) (upd la l (nI (k + 1))) b else b) n 0 (lgb way best) := by rw [lgo]
    by_cases hcut : way.length + M ≤ (lgb way best).length
    · have hskip := lgo_skip (rest := rest) (shy := shy) hn (d + 1) way p k H la (lgb way best) (fun q => r.testBit q) hp hg (by rw [← hM]; exact hcut)
      have hsame : lgo n rest shy B (d + 1) way p k H la best = lgb way best := by
        rw [lgo, lgb_same (lgb_ge way best)] at hskip
        rw [hunf]
        exact hskip
      refine ⟨pic, night, last, a, w, as, fo, tp, sk, wa, be1, ?_, hw, hC, by rw [hsame]; exact hb1, fun _ _ => rfl⟩
      rw [hsame, e1, f_Th_seekLongest_L33]
      simp (disch := omega) only [n_lt, n_le, n_eq, n_cl, n_sub, nI_add, pk_mul, n_subL, n_Lsub, n_neN, n_Nne, n_leN, n_ltN, n_Nlt, n_Nle, le_T, le_F, lt_T, lt_F, eq_T, eq_F, true_or, or_true, false_or, or_false, true_and, and_true, false_and, and_false, and_self, or_self, not_true_eq_false, not_false_eq_true, decide_eq_true_eq, decide_true, decide_false, Bool.false_eq_true, Bool.true_eq_false, eq_self, ↓reduceIte, Option.bind_some, mo_in, lit_0, lit_1, lit_2, lit_3, lit_4, lit_5, lit_6, lit_7, lit_8, lit_9, lit_10, lit_11, lit_12, lit_13, lit_14, lit_15, lit_16, lit_20, lit_22, lit_24, lit_28, lit_30, lit_31, lit_32, lit_39, lit_40, lit_42, lit_48, lit_50, lit_57, lit_60, lit_61, lit_62, lit_63, lit_64, lit_100, lit_120, lit_121, lit_122, lit_128, lit_130, lit_255, lit_256, lit_360, lit_1024, lit_2147483647, m1_pred, Nat.add_sub_cancel, lit_124, lit_38, lit_37, lit_33, lit_126, lit_59, lit_112, lit_108, lit_110, lit_104, lit_47, lit_43, lit_45, lit_41, lit_123, lit_49, lit_58, lit_68, e2, e3]
    · have loop : ∀ (e l fu : Nat) (b : List Nat) (pic night a tp : Int32) (w as fo : Nat → Int64) (last sk wa be : Nat → Int32), l + e = n → e < fu → b.length ≤ 15 → cwk p k H la pic night w last → lw_C lines a as fo → rep wa way → rep be b → ∃ pic' night' last' a' w' as' fo' tp' sk' wa' be', f_Th_seekLongest_L59 (f_Th_seekLongest f) fu (nI way.length) (nI l) (nI b.length) (nI o) wa be (nI n) pic night w last rest shy a as fo len tp code sk told = some (nI (lgl (fun l b => if al n rest shy B p k H la l = true then lgo n rest shy B d (way ++ [l]) (p ^^^ 2 ^ l) (k + 1) (hs H (p ^^^ 2 ^ l)) (upd la l (nI (k + 1))) b else b) e l b).length, wa', be', pic', night', w', last', a', as', fo', tp', sk') ∧ cwk p k H la pic' night' w' last' ∧ lw_C lines a' as' fo' ∧ rep be' (lgl (fun l b => if al n rest shy B p k H la l = true then lgo n rest shy B d (way ++ [l]) (p ^^^ 2 ^ l) (k + 1) (hs H (p ^^^ 2 ^ l)) (upd la l (nI (k + 1))) b else b) e l b) ∧ ∀ j, j < way.length → wa' j = wa j := by
        intro e
        induction e with
        | zero =>
          intro l fu b pic night a tp w as fo last sk wa be hl hfu hb hw hC hwa hbe
          obtain ⟨g, rfl⟩ : ∃ g, fu = g + 1 := ⟨fu - 1, by omega⟩
          refine ⟨pic, night, last, a, w, as, fo, tp, sk, wa, be, ?_, hw, hC, hbe, fun _ _ => rfl⟩
          rw [f_Th_seekLongest_L59]
          simp (disch := omega) only [n_lt, n_le, n_eq, n_cl, n_sub, nI_add, pk_mul, n_subL, n_Lsub, n_neN, n_Nne, n_leN, n_ltN, n_Nlt, n_Nle, le_T, le_F, lt_T, lt_F, eq_T, eq_F, true_or, or_true, false_or, or_false, true_and, and_true, false_and, and_false, and_self, or_self, not_true_eq_false, not_false_eq_true, decide_eq_true_eq, decide_true, decide_false, Bool.false_eq_true, Bool.true_eq_false, eq_self, ↓reduceIte, Option.bind_some, mo_in, lit_0, lit_1, lit_2, lit_3, lit_4, lit_5, lit_6, lit_7, lit_8, lit_9, lit_10, lit_11, lit_12, lit_13, lit_14, lit_15, lit_16, lit_20, lit_22, lit_24, lit_28, lit_30, lit_31, lit_32, lit_39, lit_40, lit_42, lit_48, lit_50, lit_57, lit_60, lit_61, lit_62, lit_63, lit_64, lit_100, lit_120, lit_121, lit_122, lit_128, lit_130, lit_255, lit_256, lit_360, lit_1024, lit_2147483647, m1_pred, Nat.add_sub_cancel, lit_124, lit_38, lit_37, lit_33, lit_126, lit_59, lit_112, lit_108, lit_110, lit_104, lit_47, lit_43, lit_45, lit_41, lit_123, lit_49, lit_58, lit_68]
          rfl
        | succ e ihe =>
          intro l fu b pic night a tp w as fo last sk wa be hl hfu hb hw hC hwa hbe
          obtain ⟨g, rfl⟩ : ∃ g, fu = g + 1 := ⟨fu - 1, by omega⟩
          obtain ⟨a1, as1, fo1, tp1, sk1, c1, hC1⟩ := ru_allow (l := l) hS hv (by omega) hw hB hC tp sk (rest := rest) (shy := shy)
          rw [f_Th_seekLongest_L59, lgl]
          cases hal : al n rest shy B p k H la l with
          | false =>
            rw [hal] at c1
            obtain ⟨pic', night', last', a', w', as', fo', tp', sk', wa', be', d1, d2, d3, d4, d5⟩ := ihe (l + 1) g b pic night a1 tp1 w as1 fo1 last sk1 wa be (by omega) (by omega) hb hw hC1 hwa hbe
            refine ⟨pic', night', last', a', w', as', fo', tp', sk', wa', be', ?_, d2, d3, ?_, d5⟩
            · simp (disch := omega) only [n_lt, n_le, n_eq, n_cl, n_sub, nI_add, pk_mul, n_subL, n_Lsub, n_neN, n_Nne, n_leN, n_ltN, n_Nlt, n_Nle, le_T, le_F, lt_T, lt_F, eq_T, eq_F, true_or, or_true, false_or, or_false, true_and, and_true, false_and, and_false, and_self, or_self, not_true_eq_false, not_false_eq_true, decide_eq_true_eq, decide_true, decide_false, Bool.false_eq_true, Bool.true_eq_false, eq_self, ↓reduceIte, Option.bind_some, mo_in, lit_0, lit_1, lit_2, lit_3, lit_4, lit_5, lit_6, lit_7, lit_8, lit_9, lit_10, lit_11, lit_12, lit_13, lit_14, lit_15, lit_16, lit_20, lit_22, lit_24, lit_28, lit_30, lit_31, lit_32, lit_39, lit_40, lit_42, lit_48, lit_50, lit_57, lit_60, lit_61, lit_62, lit_63, lit_64, lit_100, lit_120, lit_121, lit_122, lit_128, lit_130, lit_255, lit_256, lit_360, lit_1024, lit_2147483647, m1_pred, Nat.add_sub_cancel, lit_124, lit_38, lit_37, lit_33, lit_126, lit_59, lit_112, lit_108, lit_110, lit_104, lit_47, lit_43, lit_45, lit_41, lit_123, lit_49, lit_58, lit_68, c1, f_Th_seekLongest_L125]
              exact d1
            · simp only [Bool.false_eq_true, if_false]
              exact d4
          | true =>
            rw [hal] at c1
            obtain ⟨pic1, night1, last1, w1, s1, s2, s3⟩ := cl_go (l := l) hv (by omega) hw
            have hv1 := vd_step (l := l) hv (by omega) (by omega)
            have hlen : (way ++ [l]).length = way.length + 1 := by simp
            obtain ⟨pic2, night2, last2, a2, w2, as2, fo2, tp2, sk2, wa2, be2, r1, r2, r3, r4, r5⟩ := ih f (p ^^^ 2 ^ l) (k + 1) (way ++ [l]) b (hs H (p ^^^ 2 ^ l)) (upd la l (nI (k + 1))) pic1 night1 a1 tp1 w1 as1 fo1 last1 sk1 (upd wa way.length (nI l)) be (by omega) (by omega) hb hv1 (by unfold hs; simp) (by omega) s3 hC1 (rep_add hwa) hbe
            rw [hlen] at r1 r5
            obtain ⟨pic3, night3, w3, last3, b1, b2⟩ := cl_back hv (by omega) (al_new hal) r2
            have hb2 : (lgo n rest shy B d (way ++ [l]) (p ^^^ 2 ^ l) (k + 1) (hs H (p ^^^ 2 ^ l)) (upd la l (nI (k + 1))) b).length ≤ 15 := lgo_len d _ _ _ _ _ _ (by omega) hb
            have hpre : ∀ j, j < way.length → wa2 j = wa j := fun j hj => by rw [r5 j (by omega), pk_un (by omega)]
            obtain ⟨pic', night', last', a', w', as', fo', tp', sk', wa', be', d1, d2, d3, d4, d5⟩ := ihe (l + 1) g (lgo n rest shy B d (way ++ [l]) (p ^^^ 2 ^ l) (k + 1) (hs H (p ^^^ 2 ^ l)) (upd la l (nI (k + 1))) b) pic3 night3 a2 tp2 w3 as2 fo2 last3 sk2 wa2 be2 (by omega) (by omega) hb2 b2 r3 (rep_cong hwa hpre) r4
            refine ⟨pic', night', last', a', w', as', fo', tp', sk', wa', be', ?_, d2, d3, ?_, fun j hj => by rw [d5 j hj, hpre j hj]⟩
            · simp (disch := omega) only [n_lt, n_le, n_eq, n_cl, n_sub, nI_add, pk_mul, n_subL, n_Lsub, n_neN, n_Nne, n_leN, n_ltN, n_Nlt, n_Nle, le_T, le_F, lt_T, lt_F, eq_T, eq_F, true_or, or_true, false_or, or_false, true_and, and_true, false_and, and_false, and_self, or_self, not_true_eq_false, not_false_eq_true, decide_eq_true_eq, decide_true, decide_false, Bool.false_eq_true, Bool.true_eq_false, eq_self, ↓reduceIte, Option.bind_some, mo_in, lit_0, lit_1, lit_2, lit_3, lit_4, lit_5, lit_6, lit_7, lit_8, lit_9, lit_10, lit_11, lit_12, lit_13, lit_14, lit_15, lit_16, lit_20, lit_22, lit_24, lit_28, lit_30, lit_31, lit_32, lit_39, lit_40, lit_42, lit_48, lit_50, lit_57, lit_60, lit_61, lit_62, lit_63, lit_64, lit_100, lit_120, lit_121, lit_122, lit_128, lit_130, lit_255, lit_256, lit_360, lit_1024, lit_2147483647, m1_pred, Nat.add_sub_cancel, lit_124, lit_38, lit_37, lit_33, lit_126, lit_59, lit_112, lit_108, lit_110, lit_104, lit_47, lit_43, lit_45, lit_41, lit_123, lit_49, lit_58, lit_68, c1, s1, s2, r1, b1, f_Th_seekLongest_L125]
              exact d1
            · simp only [if_true]
              exact d4
      obtain ⟨pic', night', last', a', w', as', fo', tp', sk', wa', be', d1, d2, d3, d4, d5⟩ := loop n 0 3000 (lgb way best) pic night a tp w as fo last sk wa be1 (by omega) (by omega) hbl1 hw hC hwa hb1
      rw [← hunf] at d1 d4
      refine ⟨pic', night', last', a', w', as', fo', tp', sk', wa', be', ?_, d2, d3, d4, d5⟩
      rw [e1, f_Th_seekLongest_L33]
      simp (disch := omega) only [n_lt, n_le, n_eq, n_cl, n_sub, nI_add, pk_mul, n_subL, n_Lsub, n_neN, n_Nne, n_leN, n_ltN, n_Nlt, n_Nle, le_T, le_F, lt_T, lt_F, eq_T, eq_F, true_or, or_true, false_or, or_false, true_and, and_true, false_and, and_false, and_self, or_self, not_true_eq_false, not_false_eq_true, decide_eq_true_eq, decide_true, decide_false, Bool.false_eq_true, Bool.true_eq_false, eq_self, ↓reduceIte, Option.bind_some, mo_in, lit_0, lit_1, lit_2, lit_3, lit_4, lit_5, lit_6, lit_7, lit_8, lit_9, lit_10, lit_11, lit_12, lit_13, lit_14, lit_15, lit_16, lit_20, lit_22, lit_24, lit_28, lit_30, lit_31, lit_32, lit_39, lit_40, lit_42, lit_48, lit_50, lit_57, lit_60, lit_61, lit_62, lit_63, lit_64, lit_100, lit_120, lit_121, lit_122, lit_128, lit_130, lit_255, lit_256, lit_360, lit_1024, lit_2147483647, m1_pred, Nat.add_sub_cancel, lit_124, lit_38, lit_37, lit_33, lit_126, lit_59, lit_112, lit_108, lit_110, lit_104, lit_47, lit_43, lit_45, lit_41, lit_123, lit_49, lit_58, lit_68, e2, e3]
      exact d1
theorem mo_longest {n : Nat} {B : Nat → Bool} {rest shy : Int32} {barred : Nat → Int32} (hB : ∀ q, q < 2 ^ n → barred q = b2i (B q)) (hn : n ≤ 4) : ∀ (d fu p k : Nat) (way best : List Nat) (H : Nat → Bool) (la : Nat → Int32) (at_ night : Int32) (mhad mlast wa be : Nat → Int32), d < fu → way.length + d = 15 → best.length ≤ 15 → fre n H ≤ d → vd n p k la → k + d < 1000 → mwk p k H la at_ night mhad mlast → rep wa way → rep be best → ∃ at' night' mhad' mlast' wa' be', f_Mo_longestFrom fu (nI way.length) (nI n) at_ night rest shy (nI best.length) wa be mhad barred mlast = some (at', night', nI (lgo n rest shy B d way p k H la best).length, wa', be', mhad', mlast') ∧ mwk p k H la at' night' mhad' mlast' ∧ rep be' (lgo n rest shy B d way p k H la best) ∧ ∀ j, j < way.length → wa' j = wa j := by
  have copy : ∀ (f N : Nat) (at_ night bm : Int32) (wa mhad mlast : Nat → Int32), N ≤ 15 → ∀ (e i fu : Nat) (be : Nat → Int32), i + e = N → e < fu → ∃ be', f_Mo_longestFrom_L15 (f_Mo_longestFrom f) fu (nI N) (nI i) (nI n) at_ night rest shy bm wa be mhad barred mlast = f_Mo_longestFrom_L38 (f_Mo_longestFrom f) (nI N) (nI n) at_ night rest shy bm wa be' mhad barred mlast ∧ ∀ j, be' j = if i ≤ j ∧ j < N then wa j else be j := by
    intro f N at_ night bm wa mhad mlast hN e
    induction e with
    | zero =>
      intro i fu be hi hfu
      obtain ⟨g, rfl⟩ : ∃ g, fu = g + 1 := ⟨fu - 1, by omega⟩
      refine ⟨be, ?_, fun j => by rw [if_neg (by omega)]⟩
      rw [f_Mo_longestFrom_L15]
      simp (disch := omega) only [n_lt, n_le, n_eq, n_cl, n_sub, nI_add, pk_mul, n_subL, n_Lsub, n_neN, n_Nne, n_leN, n_ltN, n_Nlt, n_Nle, le_T, le_F, lt_T, lt_F, eq_T, eq_F, true_or, or_true, false_or, or_false, true_and, and_true, false_and, and_false, and_self, or_self, not_true_eq_false, not_false_eq_true, decide_eq_true_eq, decide_true, decide_false, Bool.false_eq_true, Bool.true_eq_false, eq_self, ↓reduceIte, Option.bind_some, mo_in, lit_0, lit_1, lit_2, lit_3, lit_4, lit_5, lit_6, lit_7, lit_8, lit_9, lit_10, lit_11, lit_12, lit_13, lit_14, lit_15, lit_16, lit_20, lit_22, lit_24, lit_28, lit_30, lit_31, lit_32, lit_39, lit_40, lit_42, lit_48, lit_50, lit_57, lit_60, lit_61, lit_62, lit_63, lit_64, lit_100, lit_120, lit_121, lit_122, lit_128, lit_130, lit_255, lit_256, lit_360, lit_1024, lit_2147483647, m1_pred, Nat.add_sub_cancel, lit_124, lit_38, lit_37, lit_33, lit_126, lit_59, lit_112, lit_108, lit_110, lit_104, lit_47, lit_43, lit_45, lit_41, lit_123, lit_49, lit_58, lit_68]
    | succ e ih =>
      intro i fu be hi hfu
      obtain ⟨g, rfl⟩ : ∃ g, fu = g + 1 := ⟨fu - 1, by omega⟩
      obtain ⟨be', q, q2⟩ := ih (i + 1) g (upd be i (wa i)) (by omega) (by omega)
      refine ⟨be', ?_, upd_step (v := wa) (by omega) q2⟩
      rw [← q, f_Mo_longestFrom_L15]
      simp (disch := omega) only [n_lt, n_le, n_eq, n_cl, n_sub, nI_add, pk_mul, n_subL, n_Lsub, n_neN, n_Nne, n_leN, n_ltN, n_Nlt, n_Nle, le_T, le_F, lt_T, lt_F, eq_T, eq_F, true_or, or_true, false_or, or_false, true_and, and_true, false_and, and_false, and_self, or_self, not_true_eq_false, not_false_eq_true, decide_eq_true_eq, decide_true, decide_false, Bool.false_eq_true, Bool.true_eq_false, eq_self, ↓reduceIte, Option.bind_some, mo_in, lit_0, lit_1, lit_2, lit_3, lit_4, lit_5, lit_6, lit_7, lit_8, lit_9, lit_10, lit_11, lit_12, lit_13, lit_14, lit_15, lit_16, lit_20, lit_22, lit_24, lit_28, lit_30, lit_31, lit_32, lit_39, lit_40, lit_42, lit_48, lit_50, lit_57, lit_60, lit_61, lit_62, lit_63, lit_64, lit_100, lit_120, lit_121, lit_122, lit_128, lit_130, lit_255, lit_256, lit_360, lit_1024, lit_2147483647, m1_pred, Nat.add_sub_cancel, lit_124, lit_38, lit_37, lit_33, lit_126, lit_59, lit_112, lit_108, lit_110, lit_104, lit_47, lit_43, lit_45, lit_41, lit_123, lit_49, lit_58, lit_68]
  have first : ∀ (f d : Nat) (way best : List Nat) (at_ night : Int32) (mhad mlast wa be : Nat → Int32), way.length + d = 15 → best.length ≤ 15 → rep wa way → rep be best → ∃ be1, f_Mo_longestFrom (f + 1) (nI way.length) (nI n) at_ night rest shy (nI best.length) wa be mhad barred mlast = f_Mo_longestFrom_L40 (f_Mo_longestFrom f) 3000 (nI way.length) (nI 0) (nI n) at_ night rest shy (nI (lgb way best).length) wa be1 mhad barred mlast ∧ rep be1 (lgb way best) := by
    intro f d way best at_ night mhad mlast wa be hd hbl hwa hbe
    rw [f_Mo_longestFrom, f_Mo_longestFrom_body]
    by_cases c : best.length < way.length
    · have e1 : lgb way best = way := by unfold lgb; rw [if_pos c]
      rw [e1]
      obtain ⟨be', q, q2⟩ := copy f way.length at_ night (nI way.length) wa mhad mlast (by omega) way.length 0 3000 be (by omega) (by omega)
      refine ⟨be', ?_, fun j x hj => ?_⟩
      · simp (disch := omega) only [n_lt, n_le, n_eq, n_cl, n_sub, nI_add, pk_mul, n_subL, n_Lsub, n_neN, n_Nne, n_leN, n_ltN, n_Nlt, n_Nle, le_T, le_F, lt_T, lt_F, eq_T, eq_F, true_or, or_true, false_or, or_false, true_and, and_true, false_and, and_false, and_self, or_self, not_true_eq_false, not_false_eq_true, decide_eq_true_eq, decide_true, decide_false, Bool.false_eq_true, Bool.true_eq_false, eq_self, ↓reduceIte, Option.bind_some, mo_in, lit_0, lit_1, lit_2, lit_3, lit_4, lit_5, lit_6, lit_7, lit_8, lit_9, lit_10, lit_11, lit_12, lit_13, lit_14, lit_15, lit_16, lit_20, lit_22, lit_24, lit_28, lit_30, lit_31, lit_32, lit_39, lit_40, lit_42, lit_48, lit_50, lit_57, lit_60, lit_61, lit_62, lit_63, lit_64, lit_100, lit_120, lit_121, lit_122, lit_128, lit_130, lit_255, lit_256, lit_360, lit_1024, lit_2147483647, m1_pred, Nat.add_sub_cancel, lit_124, lit_38, lit_37, lit_33, lit_126, lit_59, lit_112, lit_108, lit_110, lit_104, lit_47, lit_43, lit_45, lit_41, lit_123, lit_49, lit_58, lit_68, q, f_Mo_longestFrom_L38]
      · have hl := (List.getElem?_eq_some_iff.mp hj).1
        rw [q2, if_pos (by omega)]
        exact hwa j x hj
    · have e1 : lgb way best = best := by unfold lgb; rw [if_neg c]
      rw [e1]
      refine ⟨be, ?_, hbe⟩
      simp (disch := omega) only [n_lt, n_le, n_eq, n_cl, n_sub, nI_add, pk_mul, n_subL, n_Lsub, n_neN, n_Nne, n_leN, n_ltN, n_Nlt, n_Nle, le_T, le_F, lt_T, lt_F, eq_T, eq_F, true_or, or_true, false_or, or_false, true_and, and_true, false_and, and_false, and_self, or_self, not_true_eq_false, not_false_eq_true, decide_eq_true_eq, decide_true, decide_false, Bool.false_eq_true, Bool.true_eq_false, eq_self, ↓reduceIte, Option.bind_some, mo_in, lit_0, lit_1, lit_2, lit_3, lit_4, lit_5, lit_6, lit_7, lit_8, lit_9, lit_10, lit_11, lit_12, lit_13, lit_14, lit_15, lit_16, lit_20, lit_22, lit_24, lit_28, lit_30, lit_31, lit_32, lit_39, lit_40, lit_42, lit_48, lit_50, lit_57, lit_60, lit_61, lit_62, lit_63, lit_64, lit_100, lit_120, lit_121, lit_122, lit_128, lit_130, lit_255, lit_256, lit_360, lit_1024, lit_2147483647, m1_pred, Nat.add_sub_cancel, lit_124, lit_38, lit_37, lit_33, lit_126, lit_59, lit_112, lit_108, lit_110, lit_104, lit_47, lit_43, lit_45, lit_41, lit_123, lit_49, lit_58, lit_68, f_Mo_longestFrom_L38]
  intro d
  induction d with
  | zero =>
    intro fu p k way best H la at_ night mhad mlast wa be hfu hd hbl hfr hv hk hw hwa hbe
    obtain ⟨f, rfl⟩ : ∃ f, fu = f + 1 := ⟨fu - 1, by omega⟩
    obtain ⟨be1, e1, hb1⟩ := first f 0 way best at_ night mhad mlast wa be hd hbl hwa hbe
    have loop : ∀ (e l fu : Nat), l + e = n → e < fu → f_Mo_longestFrom_L40 (f_Mo_longestFrom f) fu (nI way.length) (nI l) (nI n) at_ night rest shy (nI (lgb way best).length) wa be1 mhad barred mlast = some (at_, night, nI (lgb way best).length, wa, be1, mhad, mlast) := by
      intro e
      induction e with
      | zero =>
        intro l fu hl hfu
        obtain ⟨g, rfl⟩ : ∃ g, fu = g + 1 := ⟨fu - 1, by omega⟩
        rw [f_Mo_longestFrom_L40]
        simp (disch := omega) only [n_lt, n_le, n_eq, n_cl, n_sub, nI_add, pk_mul, n_subL, n_Lsub, n_neN, n_Nne, n_leN, n_ltN, n_Nlt, n_Nle, le_T, le_F, lt_T, lt_F, eq_T, eq_F, true_or, or_true, false_or, or_false, true_and, and_true, false_and, and_false, and_self, or_self, not_true_eq_false, not_false_eq_true, decide_eq_true_eq, decide_true, decide_false, Bool.false_eq_true, Bool.true_eq_false, eq_self, ↓reduceIte, Option.bind_some, mo_in, lit_0, lit_1, lit_2, lit_3, lit_4, lit_5, lit_6, lit_7, lit_8, lit_9, lit_10, lit_11, lit_12, lit_13, lit_14, lit_15, lit_16, lit_20, lit_22, lit_24, lit_28, lit_30, lit_31, lit_32, lit_39, lit_40, lit_42, lit_48, lit_50, lit_57, lit_60, lit_61, lit_62, lit_63, lit_64, lit_100, lit_120, lit_121, lit_122, lit_128, lit_130, lit_255, lit_256, lit_360, lit_1024, lit_2147483647, m1_pred, Nat.add_sub_cancel, lit_124, lit_38, lit_37, lit_33, lit_126, lit_59, lit_112, lit_108, lit_110, lit_104, lit_47, lit_43, lit_45, lit_41, lit_123, lit_49, lit_58, lit_68]
      | succ e ihe =>
        intro l fu hl hfu
        obtain ⟨g, rfl⟩ : ∃ g, fu = g + 1 := ⟨fu - 1, by omega⟩
        have c1 := mo_may (l := l) hv (by omega) hw hB (rest := rest) (shy := shy)
        cases hal : al n rest shy B p k H la l with
        | true =>
          have hfr1 := fre_step (x_lt (l := l) hv.2.2.1 (by omega)) (al_new hal)
          omega
        | false =>
          rw [hal] at c1
          rw [f_Mo_longestFrom_L40]
          simp (disch := omega) only [n_lt, n_le, n_eq, n_cl, n_sub, nI_add, pk_mul, n_subL, n_Lsub, n_neN, n_Nne, n_leN, n_ltN, n_Nlt, n_Nle, le_T, le_F, lt_T, lt_F, eq_T, eq_F, true_or, or_true, false_or, or_false, true_and, and_true, false_and, and_false, and_self, or_self, not_true_eq_false, not_false_eq_true, decide_eq_true_eq, decide_true, decide_false, Bool.false_eq_true, Bool.true_eq_false, eq_self, ↓reduceIte, Option.bind_some, mo_in, lit_0, lit_1, lit_2, lit_3, lit_4, lit_5, lit_6, lit_7, lit_8, lit_9, lit_10, lit_11, lit_12, lit_13, lit_14, lit_15, lit_16, lit_20, lit_22, lit_24, lit_28, lit_30, lit_31, lit_32, lit_39, lit_40, lit_42, lit_48, lit_50, lit_57, lit_60, lit_61, lit_62, lit_63, lit_64, lit_100, lit_120, lit_121, lit_122, lit_128, lit_130, lit_255, lit_256, lit_360, lit_1024, lit_2147483647, m1_pred, Nat.add_sub_cancel, lit_124, lit_38, lit_37, lit_33, lit_126, lit_59, lit_112, lit_108, lit_110, lit_104, lit_47, lit_43, lit_45, lit_41, lit_123, lit_49, lit_58, lit_68, c1, f_Mo_longestFrom_L85]
          exact ihe (l + 1) g (by omega) (by omega)
    exact ⟨at_, night, mhad, mlast, wa, be1, e1.trans (loop n 0 3000 (by omega) (by omega)), hw, hb1, fun _ _ => rfl⟩
  | succ d ih =>
    intro fu p k way best H la at_ night mhad mlast wa be hfu hd hbl hfr hv hk hw hwa hbe
    obtain ⟨f, rfl⟩ : ∃ f, fu = f + 1 := ⟨fu - 1, by omega⟩
    obtain ⟨be1, e1, hb1⟩ := first f (d + 1) way best at_ night mhad mlast wa be hd hbl hwa hbe
    have hbl1 : (lgb way best).length ≤ 15 := lgb_len (by omega) hbl
    have hunf : lgo n rest shy B (d + 1) way p k H la best = lgl (fun l b => if al n rest shy B p k H la l = true then lgo n rest shy B d (way ++ [l]) (p ^^^ 2 ^ l) (k + 1) (hs H (p ^^^ 2 ^ l)) (upd la l (nI (k + 1))) b else b) n 0 (lgb way best) := by rw [lgo]
    have loop : ∀ (e l fu : Nat) (b : List Nat) (at_ night : Int32) (mhad mlast wa be : Nat → Int32), l + e = n → e < fu → b.length ≤ 15 → mwk p k H la at_ night mhad mlast → rep wa way → rep be b → ∃ at' night' mhad' mlast' wa' be', f_Mo_longestFrom_L40 (f_Mo_longestFrom f) fu (nI way.length) (nI l) (nI n) at_ night rest shy (nI b.length) wa be mhad barred mlast = some (at', night', nI (lgl (fun l b => if al n rest shy B p k H la l = true then lgo n rest shy B d (way ++ [l]) (p ^^^ 2 ^ l) (k + 1) (hs H (p ^^^ 2 ^ l)) (upd la l (nI (k + 1))) b else b) e l b).length, wa', be', mhad', mlast') ∧ mwk p k H la at' night' mhad' mlast' ∧ rep be' (lgl (fun l b => if al n rest shy B p k H la l = true then lgo n rest shy B d (way ++ [l]) (p ^^^ 2 ^ l) (k + 1) (hs H (p ^^^ 2 ^ l)) (upd la l (nI (k + 1))) b else b) e l b) ∧ ∀ j, j < way.length → wa' j = wa j := by
      intro e
      induction e with
      | zero =>
        intro l fu b at_ night mhad mlast wa be hl hfu hb hw hwa hbe
        obtain ⟨g, rfl⟩ : ∃ g, fu = g + 1 := ⟨fu - 1, by omega⟩
        refine ⟨at_, night, mhad, mlast, wa, be, ?_, hw, hbe, fun _ _ => rfl⟩
        rw [f_Mo_longestFrom_L40]
        simp (disch := omega) only [n_lt, n_le, n_eq, n_cl, n_sub, nI_add, pk_mul, n_subL, n_Lsub, n_neN, n_Nne, n_leN, n_ltN, n_Nlt, n_Nle, le_T, le_F, lt_T, lt_F, eq_T, eq_F, true_or, or_true, false_or, or_false, true_and, and_true, false_and, and_false, and_self, or_self, not_true_eq_false, not_false_eq_true, decide_eq_true_eq, decide_true, decide_false, Bool.false_eq_true, Bool.true_eq_false, eq_self, ↓reduceIte, Option.bind_some, mo_in, lit_0, lit_1, lit_2, lit_3, lit_4, lit_5, lit_6, lit_7, lit_8, lit_9, lit_10, lit_11, lit_12, lit_13, lit_14, lit_15, lit_16, lit_20, lit_22, lit_24, lit_28, lit_30, lit_31, lit_32, lit_39, lit_40, lit_42, lit_48, lit_50, lit_57, lit_60, lit_61, lit_62, lit_63, lit_64, lit_100, lit_120, lit_121, lit_122, lit_128, lit_130, lit_255, lit_256, lit_360, lit_1024, lit_2147483647, m1_pred, Nat.add_sub_cancel, lit_124, lit_38, lit_37, lit_33, lit_126, lit_59, lit_112, lit_108, lit_110, lit_104, lit_47, lit_43, lit_45, lit_41, lit_123, lit_49, lit_58, lit_68]
        rfl
      | succ e ihe =>
        intro l fu b at_ night mhad mlast wa be hl hfu hb hw hwa hbe
        obtain ⟨g, rfl⟩ : ∃ g, fu = g + 1 := ⟨fu - 1, by omega⟩
        have c1 := mo_may (l := l) hv (by omega) hw hB (rest := rest) (shy := shy)
        rw [f_Mo_longestFrom_L40, lgl]
        cases hal : al n rest shy B p k H la l with
        | false =>
          rw [hal] at c1
          obtain ⟨at', night', mhad', mlast', wa', be', d1, d2, d4, d5⟩ := ihe (l + 1) g b at_ night mhad mlast wa be (by omega) (by omega) hb hw hwa hbe
          refine ⟨at', night', mhad', mlast', wa', be', ?_, d2, ?_, d5⟩
          · simp (disch := omega) only [n_lt, n_le, n_eq, n_cl, n_sub, nI_add, pk_mul, n_subL, n_Lsub, n_neN, n_Nne, n_leN, n_ltN, n_Nlt, n_Nle, le_T, le_F, lt_T, lt_F, eq_T, eq_F, true_or, or_true, false_or, or_false, true_and, and_true, false_and, and_false, and_self, or_self, not_true_eq_false, not_false_eq_true, decide_eq_true_eq, decide_true, decide_false, Bool.false_eq_true, Bool.true_eq_false, eq_self, ↓reduceIte, Option.bind_some, mo_in, lit_0, lit_1, lit_2, lit_3, lit_4, lit_5, lit_6, lit_7, lit_8, lit_9, lit_10, lit_11, lit_12, lit_13, lit_14, lit_15, lit_16, lit_20, lit_22, lit_24, lit_28, lit_30, lit_31, lit_32, lit_39, lit_40, lit_42, lit_48, lit_50, lit_57, lit_60, lit_61, lit_62, lit_63, lit_64, lit_100, lit_120, lit_121, lit_122, lit_128, lit_130, lit_255, lit_256, lit_360, lit_1024, lit_2147483647, m1_pred, Nat.add_sub_cancel, lit_124, lit_38, lit_37, lit_33, lit_126, lit_59, lit_112, lit_108, lit_110, lit_104, lit_47, lit_43, lit_45, lit_41, lit_123, lit_49, lit_58, lit_68, c1, f_Mo_longestFrom_L85]
            exact d1
          · simp only [Bool.false_eq_true, if_false]
            exact d4
        | true =>
          rw [hal] at c1
          obtain ⟨at1, night1, mlast1, mhad1, s1, s3⟩ := mo_go (l := l) hv (by omega) hw
          have hv1 := vd_step (l := l) hv (by omega) (by omega)
          have hfr1 := fre_step (x_lt (l := l) hv.2.2.1 (by omega)) (al_new hal)
          have hlen : (way ++ [l]).length = way.length + 1 := by simp
          obtain ⟨at2, night2, mhad2, mlast2, wa2, be2, r1, r2, r4, r5⟩ := ih f (p ^^^ 2 ^ l) (k + 1) (way ++ [l]) b (hs H (p ^^^ 2 ^ l)) (upd la l (nI (k + 1))) at1 night1 mhad1 mlast1 (upd wa way.length (nI l)) be (by omega) (by omega) hb (by omega) hv1 (by omega) s3 (rep_add hwa) hbe
          rw [hlen] at r1 r5
          obtain ⟨at3, night3, mlast3, mhad3, b1, b2⟩ := mo_back hv (by omega) (al_new hal) r2
          have hb2 : (lgo n rest shy B d (way ++ [l]) (p ^^^ 2 ^ l) (k + 1) (hs H (p ^^^ 2 ^ l)) (upd la l (nI (k + 1))) b).length ≤ 15 := lgo_len d _ _ _ _ _ _ (by omega) hb
          have hpre : ∀ j, j < way.length → wa2 j = wa j := fun j hj => by rw [r5 j (by omega), pk_un (by omega)]
          obtain ⟨at', night', mhad', mlast', wa', be', d1, d2, d4, d5⟩ := ihe (l + 1) g (lgo n rest shy B d (way ++ [l]) (p ^^^ 2 ^ l) (k + 1) (hs H (p ^^^ 2 ^ l)) (upd la l (nI (k + 1))) b) at3 night3 mhad3 mlast3 wa2 be2 (by omega) (by omega) hb2 b2 (rep_cong hwa hpre) r4
          refine ⟨at', night', mhad', mlast', wa', be', ?_, d2, ?_, fun j hj => by rw [d5 j hj, hpre j hj]⟩
          · simp (disch := omega) only [n_lt, n_le, n_eq, n_cl, n_sub, nI_add, pk_mul, n_subL, n_Lsub, n_neN, n_Nne, n_leN, n_ltN, n_Nlt, n_Nle, le_T, le_F, lt_T, lt_F, eq_T, eq_F, true_or, or_true, false_or, or_false, true_and, and_true, false_and, and_false, and_self, or_self, not_true_eq_false, not_false_eq_true, decide_eq_true_eq, decide_true, decide_false, Bool.false_eq_true, Bool.true_eq_false, eq_self, ↓reduceIte, Option.bind_some, mo_in, lit_0, lit_1, lit_2, lit_3, lit_4, lit_5, lit_6, lit_7, lit_8, lit_9, lit_10, lit_11, lit_12, lit_13, lit_14, lit_15, lit_16, lit_20, lit_22, lit_24, lit_28, lit_30, lit_31, lit_32, lit_39, lit_40, lit_42, lit_48, lit_50, lit_57, lit_60, lit_61, lit_62, lit_63, lit_64, lit_100, lit_120, lit_121, lit_122, lit_128, lit_130, lit_255, lit_256, lit_360, lit_1024, lit_2147483647, m1_pred, Nat.add_sub_cancel, lit_124, lit_38, lit_37, lit_33, lit_126, lit_59, lit_112, lit_108, lit_110, lit_104, lit_47, lit_43, lit_45, lit_41, lit_123, lit_49, lit_58, lit_68, c1, s1, r1, b1, f_Mo_longestFrom_L85]
            exact d1
          · simp only [if_true]
            exact d4
    obtain ⟨at', night', mhad', mlast', wa', be', d1, d2, d4, d5⟩ := loop n 0 3000 (lgb way best) at_ night mhad mlast wa be1 (by omega) (by omega) hbl1 hw hwa hb1
    rw [← hunf] at d1 d4
    exact ⟨at', night', mhad', mlast', wa', be', e1.trans d1, d2, d4, d5⟩
theorem ok_longest {t : Nat} {x_L_wall_lamps : Int32} {x_L_wall_picture : Int32} {x_L_wall_night : Int32} {x_L_wall_spent : Int32} {x_L_wall_had_words : Nat → Int64} {x_L_wall_told_words : Nat → Int64} {x_L_wall_last : Nat → Int32} {x_L_wall_often : Nat → Int32} {x_M_lamps : Int32} {x_M_at : Int32} {x_M_night : Int32} {x_M_spent : Int32} {x_M_had : Nat → Int32} {x_M_told : Nat → Int32} {x_M_last : Nat → Int32} {x_M_often : Nat → Int32} {x_M_hasBegun : Bool} {x_L_rules_rest : Int32} {x_L_rules_shy : Int32} {x_M_rest : Int32} {x_M_shy : Int32} {x_L_rules_askedForLamps : Int32} {x_L_rules_asked_words : Nat → Int64} {x_L_rules_forbidden_words : Nat → Int64} {x_L_rules_law_code : Nat → Int32} {x_L_rules_law_length : Int32} {x_M_hasLaw : Bool} {x_M_act : Nat → Int32} {x_M_with : Nat → Int32} {x_M_lineMany : Nat → Int32} {x_M_testEnd : Nat → Int32} {x_M_lineEnd : Nat → Int32} {x_L_thought_bestLength : Int32} {x_L_thought_open : Int32} {x_L_thought_wall_lamps : Int32} {x_L_thought_wall_picture : Int32} {x_L_thought_wall_night : Int32} {x_L_thought_wall_spent : Int32} {x_L_thought_wall_had_words : Nat → Int64} {x_L_thought_wall_told_words : Nat → Int64} {x_L_thought_wall_last : Nat → Int32} {x_L_thought_wall_often : Nat → Int32} {x_L_rules_law_top : Int32} {x_L_rules_law_stack : Nat → Int32} {x_L_thought_way : Nat → Int32} {x_L_thought_best : Nat → Int32} {x_M_bestMany : Int32} {x_M_facts : Nat → Int32} {x_M_pile : Nat → Int32} {x_M_barred : Nat → Int32} {x_M_way : Nat → Int32} {x_M_bestWay : Nat → Int32} (ht : t < 64) (p1 : Int32) (hW : R_wall t x_L_wall_lamps x_L_wall_picture x_L_wall_night x_L_wall_spent x_L_wall_had_words x_L_wall_told_words x_L_wall_last x_L_wall_often x_M_lamps x_M_at x_M_night x_M_spent x_M_had x_M_told x_M_last x_M_often x_M_hasBegun) (hU : R_set x_L_rules_rest x_L_rules_shy x_M_rest x_M_shy) (hG : R_lw x_L_rules_askedForLamps x_L_rules_asked_words x_L_rules_forbidden_words x_L_rules_law_code x_L_rules_law_length x_M_hasLaw x_M_act x_M_with x_M_lineMany x_M_testEnd x_M_lineEnd) : ∃ (r : Int32) (u_L_thought_bestLength : Int32) (u_L_thought_open : Int32) (u_L_thought_wall_lamps : Int32) (u_L_thought_wall_picture : Int32) (u_L_thought_wall_night : Int32) (u_L_thought_wall_spent : Int32) (u_L_thought_wall_had_words : Nat → Int64) (u_L_thought_wall_told_words : Nat → Int64) (u_L_thought_wall_last : Nat → Int32) (u_L_thought_wall_often : Nat → Int32) (u_L_rules_askedForLamps : Int32) (u_L_rules_asked_words : Nat → Int64) (u_L_rules_forbidden_words : Nat → Int64) (u_L_rules_law_top : Int32) (u_L_rules_law_stack : Nat → Int32) (u_L_thought_way : Nat → Int32) (u_L_thought_best : Nat → Int32) (u_M_at : Int32) (u_M_night : Int32) (u_M_spent : Int32) (u_M_hasBegun : Bool) (u_M_bestMany : Int32) (u_M_had : Nat → Int32) (u_M_last : Nat → Int32) (u_M_often : Nat → Int32) (u_M_facts : Nat → Int32) (u_M_pile : Nat → Int32) (u_M_barred : Nat → Int32) (u_M_way : Nat → Int32) (u_M_bestWay : Nat → Int32), f_OL_longest p1 x_L_wall_lamps x_L_wall_picture x_L_wall_night x_L_wall_spent x_L_thought_bestLength x_L_thought_open x_L_thought_wall_lamps x_L_thought_wall_picture x_L_thought_wall_night x_L_thought_wall_spent x_L_thought_wall_had_words x_L_wall_had_words x_L_thought_wall_told_words x_L_wall_told_words x_L_wall_last x_L_thought_wall_last x_L_wall_often x_L_thought_wall_often x_L_rules_rest x_L_rules_shy x_L_rules_askedForLamps x_L_rules_asked_words x_L_rules_forbidden_words x_L_rules_law_length x_L_rules_law_top x_L_rules_law_code x_L_rules_law_stack x_L_thought_way x_L_thought_best = some (r, u_L_thought_bestLength, u_L_thought_open, u_L_thought_wall_lamps, u_L_thought_wall_picture, u_L_thought_wall_night, u_L_thought_wall_spent, u_L_thought_wall_had_words, u_L_thought_wall_told_words, u_L_thought_wall_last, u_L_thought_wall_often, u_L_rules_askedForLamps, u_L_rules_asked_words, u_L_rules_forbidden_words, u_L_rules_law_top, u_L_rules_law_stack, u_L_thought_way, u_L_thought_best) ∧ f_Mo_longest p1 x_M_lamps x_M_at x_M_night x_M_spent x_M_rest x_M_shy x_M_hasBegun x_M_hasLaw x_M_bestMany x_M_had x_M_last x_M_often x_M_told x_M_facts x_M_lineMany x_M_testEnd x_M_act x_M_pile x_M_with x_M_lineEnd x_M_barred x_M_way x_M_bestWay = some (r, u_M_at, u_M_night, u_M_spent, u_M_hasBegun, u_M_bestMany, u_M_had, u_M_last, u_M_often, u_M_facts, u_M_pile, u_M_barred, u_M_way, u_M_bestWay) ∧ R_wall t x_L_wall_lamps x_L_wall_picture x_L_wall_night x_L_wall_spent x_L_wall_had_words x_L_wall_told_words x_L_wall_last x_L_wall_often x_M_lamps u_M_at u_M_night u_M_spent u_M_had x_M_told u_M_last u_M_often u_M_hasBegun ∧ R_lw u_L_rules_askedForLamps u_L_rules_asked_words u_L_rules_forbidden_words x_L_rules_law_code x_L_rules_law_length x_M_hasLaw x_M_act x_M_with x_M_lineMany x_M_testEnd x_M_lineEnd ∧ (x_M_hasBegun = true → u_M_hasBegun = true) := by
  obtain ⟨mh, ml, mo, e0, hR⟩ := wall_ready hW
  obtain ⟨n, p, k, hk, rfl, rfl, hv, hc, hm, hT, hb1, hb2, _, _, _⟩ := wall_open ht hR
  have h10 := hv.2.1
  have hp := hv.2.2.1
  have hGx := hG
  obtain ⟨rfl, rfl⟩ := hU
  obtain ⟨lines, hS, hC⟩ := R_lw_of.mp hG
  have hneg : (p1 = -1 ∨ (p1 < 0 ∧ ¬ p1 = -1)) ∨ ∃ i : Nat, i < 2147483648 ∧ p1 = nI i := by
    rcases n_cases p1 with a | a
    · by_cases e : p1 = -1
      · exact Or.inl (Or.inl e)
      · exact Or.inl (Or.inr ⟨a, e⟩)
    · exact Or.inr a
  have hbad : p1 < 0 ∧ ¬ p1 = -1 → (-nI 1 ≤ p1) = False := fun ⟨h1, h2⟩ => eq_false (Int32.not_le.mpr (lt_m1 h1 h2))
  rcases hneg with (hm1 | hlow) | hpos
  rotate_left
  · have hb := hbad hlow
    simp (disch := omega) only [n_lt, n_le, n_eq, n_cl, n_sub, nI_add, pk_mul, n_subL, n_Lsub, n_neN, n_Nne, n_leN, n_ltN, n_Nlt, n_Nle, le_T, le_F, lt_T, lt_F, eq_T, eq_F, true_or, or_true, false_or, or_false, true_and, and_true, false_and, and_false, and_self, or_self, not_true_eq_false, not_false_eq_true, decide_eq_true_eq, decide_true, decide_false, Bool.false_eq_true, Bool.true_eq_false, eq_self, ↓reduceIte, Option.bind_some, mo_in, lit_0, lit_1, lit_2, lit_3, lit_4, lit_5, lit_6, lit_7, lit_8, lit_9, lit_10, lit_11, lit_12, lit_13, lit_14, lit_15, lit_16, lit_20, lit_22, lit_24, lit_28, lit_30, lit_31, lit_32, lit_39, lit_40, lit_42, lit_48, lit_50, lit_57, lit_60, lit_61, lit_62, lit_63, lit_64, lit_100, lit_120, lit_121, lit_122, lit_128, lit_130, lit_255, lit_256, lit_360, lit_1024, lit_2147483647, f_OL_longest, f_Mo_longest, e0, hb]
    exact ⟨_, _, _, _, _, _, _, _, _, _, _, _, _, _, _, _, _, _, _, _, _, _, _, _, _, _, _, _, _, _, _, rfl, rfl, hR, hGx, fun _ => rfl⟩
  all_goals
    have hle : (-nI 1 ≤ p1) = True := by
      first
        | (obtain ⟨i, hi, rfl⟩ := hpos; exact n_Nle hi (by omega))
        | (subst hm1; exact eq_true (by decide))
    by_cases hn4 : n ≤ 4
    rotate_left
    · simp (disch := omega) only [n_lt, n_le, n_eq, n_cl, n_sub, nI_add, pk_mul, n_subL, n_Lsub, n_neN, n_Nne, n_leN, n_ltN, n_Nlt, n_Nle, le_T, le_F, lt_T, lt_F, eq_T, eq_F, true_or, or_true, false_or, or_false, true_and, and_true, false_and, and_false, and_self, or_self, not_true_eq_false, not_false_eq_true, decide_eq_true_eq, decide_true, decide_false, Bool.false_eq_true, Bool.true_eq_false, eq_self, ↓reduceIte, Option.bind_some, mo_in, lit_0, lit_1, lit_2, lit_3, lit_4, lit_5, lit_6, lit_7, lit_8, lit_9, lit_10, lit_11, lit_12, lit_13, lit_14, lit_15, lit_16, lit_20, lit_22, lit_24, lit_28, lit_30, lit_31, lit_32, lit_39, lit_40, lit_42, lit_48, lit_50, lit_57, lit_60, lit_61, lit_62, lit_63, lit_64, lit_100, lit_120, lit_121, lit_122, lit_128, lit_130, lit_255, lit_256, lit_360, lit_1024, lit_2147483647, f_OL_longest, f_Mo_longest, e0, hle]
      exact ⟨_, _, _, _, _, _, _, _, _, _, _, _, _, _, _, _, _, _, _, _, _, _, _, _, _, _, _, _, _, _, _, rfl, rfl, hR, hGx, fun _ => rfl⟩
    have h16 : 2 ^ n ≤ 2 ^ 4 := Nat.pow_le_pow_right (by decide) hn4
    have hfr := fre_lt hp hb1
    obtain ⟨fa, pi, ba, e1, hB⟩ := mo_find hS h10 hT x_M_facts x_M_pile x_M_barred
    obtain ⟨o, wv, t', la, of, a1, as1, fo1, tp1, sk1, e2, hc2, ht2, hC1, ho⟩ := th_begin (op := x_L_thought_open) (s0 := x_L_wall_spent) (l1 := x_L_thought_wall_lamps) (p1 := x_L_thought_wall_picture) (n1 := x_L_thought_wall_night) (s1 := x_L_thought_wall_spent) (h1 := x_L_thought_wall_had_words) (t1 := x_L_thought_wall_told_words) (told := x_L_wall_told_words) (often := x_L_wall_often) (la1 := x_L_thought_wall_last) (of1 := x_L_thought_wall_often) (tp := x_L_rules_law_top) (sk := x_L_rules_law_stack) hS hn4 hc hC
    obtain ⟨pic', night', last', a', w', as', fo', tp', sk', wa', be', e3, _, hC', hbe, _⟩ := cl_longest (B := fun q => bitw x_L_wall_told_words q || decide (lw_lines (lw_env n q) lines ≠ 0)) (rest := x_M_rest) (shy := x_M_shy) (told := t') hS hn4 ht2 ho 15 20 p k [] [] (bitw x_L_wall_had_words) x_L_wall_last x_L_wall_picture x_L_wall_night a1 tp1 wv as1 fo1 la sk1 x_L_thought_way x_L_thought_best (by omega) (by simp) (by simp) hv hb1 (by omega) hc2 hC1 (fun j x hj => by simp at hj) (fun j x hj => by simp at hj)
    obtain ⟨at', night2, mhad', mlast', wa2, be2, e4, hm', hbe2, _⟩ := mo_longest (B := fun q => bitw x_L_wall_told_words q || decide (lw_lines (lw_env n q) lines ≠ 0)) (rest := x_M_rest) (shy := x_M_shy) hB hn4 15 20 p k [] [] (bitw x_L_wall_had_words) x_L_wall_last x_M_at x_M_night mh ml x_M_way x_M_bestWay (by omega) (by simp) (by simp) (by omega) hv (by omega) hm (fun j x hj => by simp at hj) (fun j x hj => by simp at hj)
    have hlen : (lgo n x_M_rest x_M_shy (fun q => bitw x_L_wall_told_words q || decide (lw_lines (lw_env n q) lines ≠ 0)) 15 [] p k (bitw x_L_wall_had_words) x_L_wall_last []).length ≤ 15 := lgo_len 15 _ _ _ _ _ _ (by simp) (by simp)
    obtain ⟨L, hL⟩ : ∃ L, L = lgo n x_M_rest x_M_shy (fun q => bitw x_L_wall_told_words q || decide (lw_lines (lw_env n q) lines ≠ 0)) 15 [] p k (bitw x_L_wall_had_words) x_L_wall_last [] := ⟨_, rfl⟩
    rw [← hL] at e3 e4 hbe hbe2 hlen
    rw [List.length_nil] at e3 e4
  · obtain ⟨i, hi, rfl⟩ := hpos
    by_cases hil : i < L.length
    · obtain ⟨x, hx⟩ : ∃ x, L[i]? = some x := ⟨L[i]'hil, List.getElem?_eq_getElem hil⟩
      have g1 := hbe i x hx
      have g2 := hbe2 i x hx
      simp (disch := omega) only [n_lt, n_le, n_eq, n_cl, n_sub, nI_add, pk_mul, n_subL, n_Lsub, n_neN, n_Nne, n_leN, n_ltN, n_Nlt, n_Nle, le_T, le_F, lt_T, lt_F, eq_T, eq_F, true_or, or_true, false_or, or_false, true_and, and_true, false_and, and_false, and_self, or_self, not_true_eq_false, not_false_eq_true, decide_eq_true_eq, decide_true, decide_false, Bool.false_eq_true, Bool.true_eq_false, eq_self, ↓reduceIte, Option.bind_some, mo_in, lit_0, lit_1, lit_2, lit_3, lit_4, lit_5, lit_6, lit_7, lit_8, lit_9, lit_10, lit_11, lit_12, lit_13, lit_14, lit_15, lit_16, lit_20, lit_22, lit_24, lit_28, lit_30, lit_31, lit_32, lit_39, lit_40, lit_42, lit_48, lit_50, lit_57, lit_60, lit_61, lit_62, lit_63, lit_64, lit_100, lit_120, lit_121, lit_122, lit_128, lit_130, lit_255, lit_256, lit_360, lit_1024, lit_2147483647, f_OL_longest, f_Th_longestFrom, f_Th_lampOfBest, f_Mo_longest, e0, e1, e2, e3, e4, hle, g1, g2]
      exact ⟨_, _, _, _, _, _, _, _, _, _, _, _, _, _, _, _, _, _, _, _, _, _, _, _, _, _, _, _, _, _, _, rfl, rfl, wall_same hR hc hm', R_lw_of.mpr ⟨lines, hS, hC'⟩, fun _ => rfl⟩
    · simp (disch := omega) only [n_lt, n_le, n_eq, n_cl, n_sub, nI_add, pk_mul, n_subL, n_Lsub, n_neN, n_Nne, n_leN, n_ltN, n_Nlt, n_Nle, le_T, le_F, lt_T, lt_F, eq_T, eq_F, true_or, or_true, false_or, or_false, true_and, and_true, false_and, and_false, and_self, or_self, not_true_eq_false, not_false_eq_true, decide_eq_true_eq, decide_true, decide_false, Bool.false_eq_true, Bool.true_eq_false, eq_self, ↓reduceIte, Option.bind_some, mo_in, lit_0, lit_1, lit_2, lit_3, lit_4, lit_5, lit_6, lit_7, lit_8, lit_9, lit_10, lit_11, lit_12, lit_13, lit_14, lit_15, lit_16, lit_20, lit_22, lit_24, lit_28, lit_30, lit_31, lit_32, lit_39, lit_40, lit_42, lit_48, lit_50, lit_57, lit_60, lit_61, lit_62, lit_63, lit_64, lit_100, lit_120, lit_121, lit_122, lit_128, lit_130, lit_255, lit_256, lit_360, lit_1024, lit_2147483647, f_OL_longest, f_Th_longestFrom, f_Mo_longest, e0, e1, e2, e3, e4, hle]
      exact ⟨_, _, _, _, _, _, _, _, _, _, _, _, _, _, _, _, _, _, _, _, _, _, _, _, _, _, _, _, _, _, _, rfl, rfl, wall_same hR hc hm', R_lw_of.mpr ⟨lines, hS, hC'⟩, fun _ => rfl⟩
  · subst hm1
    have n1 : (nI 0 ≤ -nI 1) = False := eq_false (by decide)
    simp (disch := omega) only [n_lt, n_le, n_eq, n_cl, n_sub, nI_add, pk_mul, n_subL, n_Lsub, n_neN, n_Nne, n_leN, n_ltN, n_Nlt, n_Nle, le_T, le_F, lt_T, lt_F, eq_T, eq_F, true_or, or_true, false_or, or_false, true_and, and_true, false_and, and_false, and_self, or_self, not_true_eq_false, not_false_eq_true, decide_eq_true_eq, decide_true, decide_false, Bool.false_eq_true, Bool.true_eq_false, eq_self, ↓reduceIte, Option.bind_some, mo_in, lit_0, lit_1, lit_2, lit_3, lit_4, lit_5, lit_6, lit_7, lit_8, lit_9, lit_10, lit_11, lit_12, lit_13, lit_14, lit_15, lit_16, lit_20, lit_22, lit_24, lit_28, lit_30, lit_31, lit_32, lit_39, lit_40, lit_42, lit_48, lit_50, lit_57, lit_60, lit_61, lit_62, lit_63, lit_64, lit_100, lit_120, lit_121, lit_122, lit_128, lit_130, lit_255, lit_256, lit_360, lit_1024, lit_2147483647, f_OL_longest, f_Th_longestFrom, f_Mo_longest, e0, e1, e2, e3, e4, hle, n1]
    exact ⟨_, _, _, _, _, _, _, _, _, _, _, _, _, _, _, _, _, _, _, _, _, _, _, _, _, _, _, _, _, _, _, rfl, rfl, wall_same hR hc hm', R_lw_of.mpr ⟨lines, hS, hC'⟩, fun _ => rfl⟩
