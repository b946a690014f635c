/-! PURE: ways -/
/-- how many ways of m nights end at the goal -/
def wys (n : Nat) (rest shy : Int32) (B : Nat → Bool) (goal : Nat) : Nat → Nat → Nat → (Nat → Bool) → (Nat → Int32) → Nat
  | 0, p, _, _, _ => if p = goal then 1 else 0
  | m + 1, p, k, H, la => fb_sm (fun l => if al n rest shy B p k H la l = true then wys n rest shy B goal m (p ^^^ 2 ^ l) (k + 1) (hs H (p ^^^ 2 ^ l)) (upd la l (nI (k + 1))) else 0) n
theorem bits_flip : ∀ x, x < 1024 → ∀ l, l < 10 → lw_bits x 10 ≤ lw_bits (x ^^^ 2 ^ l) 10 + 1 := by decide +kernel
theorem bits_none : ∀ x, x < 1024 → (lw_bits x 10 = 0 ↔ x = 0) := by decide +kernel
theorem x_lt1024 {p g : Nat} (hp : p < 1024) (hg : g < 1024) : p ^^^ g < 1024 := Nat.xor_lt_two_pow (n := 10) hp hg
theorem x_zero {p g : Nat} : p ^^^ g = 0 ↔ p = g := by
  constructor
  · intro h
    have h2 : p ^^^ g ^^^ g = 0 ^^^ g := by rw [h]
    rw [x_back, Nat.zero_xor] at h2
    exact h2
  · rintro rfl; exact Nat.xor_self p
theorem x_swap (p l g : Nat) : (p ^^^ 2 ^ l) ^^^ g = (p ^^^ g) ^^^ 2 ^ l := by rw [Nat.xor_assoc, Nat.xor_comm (2 ^ l) g, ← Nat.xor_assoc]
/-- too far away: none -/
theorem wys_far {n goal : Nat} {rest shy : Int32} {B : Nat → Bool} (hn : n ≤ 10) (hg : goal < 2 ^ n) : ∀ (m p k : Nat) (H : Nat → Bool) (la : Nat → Int32), p < 2 ^ n → m < lw_bits (p ^^^ goal) 10 → wys n rest shy B goal m p k H la = 0 := by
  have hpow := p_pow hn
  intro m
  induction m with
  | zero =>
    intro p k H la hp h
    rw [wys, if_neg]
    intro e
    have := (bits_none (p ^^^ goal) (x_lt1024 (by omega) (by omega))).mpr (x_zero.mpr e)
    omega
  | succ m ih =>
    intro p k H la hp h
    rw [wys]
    have hz : ∀ l, l < n → (if al n rest shy B p k H la l = true then wys n rest shy B goal m (p ^^^ 2 ^ l) (k + 1) (hs H (p ^^^ 2 ^ l)) (upd la l (nI (k + 1))) else 0) = 0 := by
      intro l hl
      have e1 := bits_flip (p ^^^ goal) (x_lt1024 (by omega) (by omega)) l (by omega)
      rw [← x_swap] at e1
      rw [ih _ _ _ _ (x_lt hp hl) (by omega), ite_self]
    rw [fb_sm_cong (g := fun _ => 0) hz, fb_sm_const]
    rfl
theorem cl_ways {lines : List (List Int32 × List Int32)} {code act with_ lineMany testEnd lineEnd : Nat → Int32} {len : Int32} {hasLaw : Bool} (hS : lw_S lines code len hasLaw act with_ lineMany testEnd lineEnd) {n goal : Nat} {B : Nat → Bool} {rest shy : Int32} {told : Nat → Int64} (hg : goal < 2 ^ n) (hB : ∀ q, q < 1024 → (bitw told q || decide (lw_lines (lw_env n q) lines ≠ 0)) = B q) : ∀ (m fu p k : Nat) (H : Nat → Bool) (la : Nat → Int32) (pic night a tp : Int32) (w as fo : Nat → Int64) (last sk : Nat → Int32), m < fu → vd n p k la → k + m < 1000 → cwk p k H la pic night w last → lw_C lines a as fo → ∃ pic' night' last' a' w' as' fo' tp' sk', f_Th_countWays fu (nI goal) (nI m) (nI n) pic night last rest shy a w as fo len tp code sk told = some (nI (wys n rest shy B goal m p k H la), pic', night', last', a', w', as', fo', tp', sk') ∧ cwk p k H la pic' night' w' last' ∧ lw_C lines a' as' fo' := by
  intro m
  induction m with
  | zero =>
    intro fu p k H la pic night a tp w as fo last sk hfu hv hk hw hC
    obtain ⟨f, rfl⟩ : ∃ f, fu = f + 1 := ⟨fu - 1, by omega⟩
    have hv' := hv
    obtain ⟨h1, h10, hp, _, _⟩ := hv'
    have hpow := p_pow h10
    have hw' := hw
    obtain ⟨rfl, rfl, hH, hL⟩ := hw'
    have hx := x_lt1024 (show p < 1024 by omega) (show goal < 1024 by omega)
    have e1 := ji_count (n := p ^^^ goal) (by omega)
    rw [bits_10 _ hx] at e1
    have e2 := bits_none _ hx
    refine ⟨nI p, nI k, last, a, w, as, fo, tp, sk, ?_, hw, hC⟩
    rw [f_Th_countWays, f_Th_countWays_body, wys]
    by_cases h : p = goal
    · have e3 : lw_bits (p ^^^ goal) 10 = 0 := e2.mpr (x_zero.mpr h)
      rw [if_pos h]
      simp (disch := omega) only [n_lt, n_le, n_eq, n_cl, n_sub, nI_add, pk_mul, n_subL, n_Lsub, n_neN, n_Nne, n_leN, n_ltN, n_Nlt, n_Nle, le_T, le_F, lt_T, lt_F, eq_T, eq_F, true_or, or_true, false_or, or_false, true_and, and_true, false_and, and_false, and_self, or_self, not_true_eq_false, not_false_eq_true, decide_eq_true_eq, decide_true, decide_false, Bool.false_eq_true, Bool.true_eq_false, eq_self, ↓reduceIte, Option.bind_some, mo_in, lit_0, lit_1, lit_2, lit_3, lit_4, lit_5, lit_6, lit_7, lit_8, lit_9, lit_10, lit_11, lit_12, lit_13, lit_14, lit_15, lit_16, lit_20, lit_22, lit_24, lit_28, lit_30, lit_31, lit_32, lit_39, lit_40, lit_42, lit_48, lit_50, lit_57, lit_60, lit_61, lit_62, lit_63, lit_64, lit_100, lit_120, lit_121, lit_122, lit_128, lit_130, lit_255, lit_256, lit_360, lit_1024, lit_2147483647, m1_pred, Nat.add_sub_cancel, lit_124, lit_38, lit_37, lit_33, lit_126, lit_59, lit_112, lit_108, lit_110, lit_104, lit_47, lit_43, lit_45, lit_41, lit_123, lit_49, lit_58, lit_68, fb_xorI, e1, e3, f_Th_countWays_L24]
    · have e3 : ¬ lw_bits (p ^^^ goal) 10 = 0 := fun z => h (x_zero.mp (e2.mp z))
      have e4 := lw_bits_le (p ^^^ goal) 10
      rw [if_neg h]
      simp (disch := omega) only [n_lt, n_le, n_eq, n_cl, n_sub, nI_add, pk_mul, n_subL, n_Lsub, n_neN, n_Nne, n_leN, n_ltN, n_Nlt, n_Nle, le_T, le_F, lt_T, lt_F, eq_T, eq_F, true_or, or_true, false_or, or_false, true_and, and_true, false_and, and_false, and_self, or_self, not_true_eq_false, not_false_eq_true, decide_eq_true_eq, decide_true, decide_false, Bool.false_eq_true, Bool.true_eq_false, eq_self, ↓reduceIte, Option.bind_some, mo_in, lit_0, lit_1, lit_2, lit_3, lit_4, lit_5, lit_6, lit_7, lit_8, lit_9, lit_10, lit_11, lit_12, lit_13, lit_14, lit_15, lit_16, lit_20, lit_22, lit_24, lit_28, lit_30, lit_31, lit_32, lit_39, lit_40, lit_42, lit_48, lit_50, lit_57, lit_60, lit_61, lit_62, lit_63, lit_64, lit_100, lit_120, lit_121, lit_122, lit_128, lit_130, lit_255, lit_256, lit_360, lit_1024, lit_2147483647, m1_pred, Nat.add_sub_cancel, lit_124, lit_38, lit_37, lit_33, lit_126, lit_59, lit_112, lit_108, lit_110, lit_104, lit_47, lit_43, lit_45, lit_41, lit_123, lit_49, lit_58, lit_68, fb_xorI, e1, f_Th_countWays_L24]
  | succ m ih =>
    intro fu p k H la pic night a tp w as fo last sk hfu hv hk hw hC
    obtain ⟨f, rfl⟩ : ∃ f, fu = f + 1 := ⟨fu - 1, by omega⟩
    have hv' := hv
    obtain ⟨h1, h10, hp, _, _⟩ := hv'
    have hpow := p_pow h10
    have hx := x_lt1024 (show p < 1024 by omega) (show goal < 1024 by omega)
    have e1 := ji_count (n := p ^^^ goal) (by omega)
    rw [bits_10 _ hx] at e1
    have e4 := lw_bits_le (p ^^^ goal) 10
    by_cases hfar : m + 1 < lw_bits (p ^^^ goal) 10
    · have hw' := hw
      obtain ⟨rfl, rfl, hH, hL⟩ := hw'
      refine ⟨nI p, nI k, last, a, w, as, fo, tp, sk, ?_, hw, hC⟩
      rw [wys_far h10 hg _ _ _ _ _ hp hfar, f_Th_countWays, f_Th_countWays_body]
      simp (disch := omega) only [n_lt, n_le, n_eq, n_cl, n_sub, nI_add, pk_mul, n_subL, n_Lsub, n_neN, n_Nne, n_leN, n_ltN, n_Nlt, n_Nle, le_T, le_F, lt_T, lt_F, eq_T, eq_F, true_or, or_true, false_or, or_false, true_and, and_true, false_and, and_false, and_self, or_self, not_true_eq_false, not_false_eq_true, decide_eq_true_eq, decide_true, decide_false, Bool.false_eq_true, Bool.true_eq_false, eq_self, ↓reduceIte, Option.bind_some, mo_in, lit_0, lit_1, lit_2, lit_3, lit_4, lit_5, lit_6, lit_7, lit_8, lit_9, lit_10, lit_11, lit_12, lit_13, lit_14, lit_15, lit_16, lit_20, lit_22, lit_24, lit_28, lit_30, lit_31, lit_32, lit_39, lit_40, lit_42, lit_48, lit_50, lit_57, lit_60, lit_61, lit_62, lit_63, lit_64, lit_100, lit_120, lit_121, lit_122, lit_128, lit_130, lit_255, lit_256, lit_360, lit_1024, lit_2147483647, m1_pred, Nat.add_sub_cancel, lit_124, lit_38, lit_37, lit_33, lit_126, lit_59, lit_112, lit_108, lit_110, lit_104, lit_47, lit_43, lit_45, lit_41, lit_123, lit_49, lit_58, lit_68, fb_xorI, e1, f_Th_countWays_L24]
    · have loop : ∀ (e l fu : Nat) (pic night a tp : Int32) (w as fo : Nat → Int64) (last sk : Nat → Int32), l + e = n → e < fu → cwk p k H la pic night w last → lw_C lines a as fo → ∃ pic' night' last' a' w' as' fo' tp' sk', f_Th_countWays_L41 (f_Th_countWays f) fu (nI goal) (nI (m + 1)) (nI (fb_sm (fun l => if al n rest shy B p k H la l = true then wys n rest shy B goal m (p ^^^ 2 ^ l) (k + 1) (hs H (p ^^^ 2 ^ l)) (upd la l (nI (k + 1))) else 0) l)) (nI l) (nI n) pic night last rest shy a w as fo len tp code sk told = some (nI (wys n rest shy B goal (m + 1) p k H la), pic', night', last', a', w', as', fo', tp', sk') ∧ cwk p k H la pic' night' w' last' ∧ lw_C lines a' as' fo' := by
        intro e
        induction e with
        | zero =>
          intro l fu pic night a tp w as fo last sk hl hfu hw hC
          obtain ⟨g, rfl⟩ : ∃ g, fu = g + 1 := ⟨fu - 1, by omega⟩
          obtain rfl : l = n := by omega
          refine ⟨pic, night, last, a, w, as, fo, tp, sk, ?_, hw, hC⟩
          rw [f_Th_countWays_L41]
          simp (disch := omega) only [n_lt, n_le, n_eq, n_cl, n_sub, nI_add, pk_mul, n_subL, n_Lsub, n_neN, n_Nne, n_leN, n_ltN, n_Nlt, n_Nle, le_T, le_F, lt_T, lt_F, eq_T, eq_F, true_or, or_true, false_or, or_false, true_and, and_true, false_and, and_false, and_self, or_self, not_true_eq_false, not_false_eq_true, decide_eq_true_eq, decide_true, decide_false, Bool.false_eq_true, Bool.true_eq_false, eq_self, ↓reduceIte, Option.bind_some, mo_in, lit_0, lit_1, lit_2, lit_3, lit_4, lit_5, lit_6, lit_7, lit_8, lit_9, lit_10, lit_11, lit_12, lit_13, lit_14, lit_15, lit_16, lit_20, lit_22, lit_24, lit_28, lit_30, lit_31, lit_32, lit_39, lit_40, lit_42, lit_48, lit_50, lit_57, lit_60, lit_61, lit_62, lit_63, lit_64, lit_100, lit_120, lit_121, lit_122, lit_128, lit_130, lit_255, lit_256, lit_360, lit_1024, lit_2147483647, m1_pred, Nat.add_sub_cancel, lit_124, lit_38, lit_37, lit_33, lit_126, lit_59, lit_112, lit_108, lit_110, lit_104, lit_47, lit_43, lit_45, lit_41, lit_123, lit_49, lit_58, lit_68]
          rfl
        | succ e ihe =>
          intro l fu pic night a tp w as fo last sk hl hfu hw hC
          obtain ⟨g, rfl⟩ : ∃ g, fu = g + 1 := ⟨fu - 1, by omega⟩
          obtain ⟨a1, as1, fo1, tp1, sk1, c1, hC1⟩ := ru_allow (l := l) hS hv (by omega) hw hB hC tp sk (rest := rest) (shy := shy)
          rw [f_Th_countWays_L41]
          cases hal : al n rest shy B p k H la l with
          | false =>
            rw [hal] at c1
            have hacc := fb_sm_succ (fun l => if al n rest shy B p k H la l = true then wys n rest shy B goal m (p ^^^ 2 ^ l) (k + 1) (hs H (p ^^^ 2 ^ l)) (upd la l (nI (k + 1))) else 0) l
            simp only [hal] at hacc
            obtain ⟨pic', night', last', a', w', as', fo', tp', sk', d1, d2, d3⟩ := ihe (l + 1) g pic night a1 tp1 w as1 fo1 last sk1 (by omega) (by omega) hw hC1
            refine ⟨pic', night', last', a', w', as', fo', tp', sk', ?_, d2, d3⟩
            rw [hacc, if_neg (by decide), Nat.add_zero] at d1
            simp (disch := omega) only [n_lt, n_le, n_eq, n_cl, n_sub, nI_add, pk_mul, n_subL, n_Lsub, n_neN, n_Nne, n_leN, n_ltN, n_Nlt, n_Nle, le_T, le_F, lt_T, lt_F, eq_T, eq_F, true_or, or_true, false_or, or_false, true_and, and_true, false_and, and_false, and_self, or_self, not_true_eq_false, not_false_eq_true, decide_eq_true_eq, decide_true, decide_false, Bool.false_eq_true, Bool.true_eq_false, eq_self, ↓reduceIte, Option.bind_some, mo_in, lit_0, lit_1, lit_2, lit_3, lit_4, lit_5, lit_6, lit_7, lit_8, lit_9, lit_10, lit_11, lit_12, lit_13, lit_14, lit_15, lit_16, lit_20, lit_22, lit_24, lit_28, lit_30, lit_31, lit_32, lit_39, lit_40, lit_42, lit_48, lit_50, lit_57, lit_60, lit_61, lit_62, lit_63, lit_64, lit_100, lit_120, lit_121, lit_122, lit_128, lit_130, lit_255, lit_256, lit_360, lit_1024, lit_2147483647, m1_pred, Nat.add_sub_cancel, lit_124, lit_38, lit_37, lit_33, lit_126, lit_59, lit_112, lit_108, lit_110, lit_104, lit_47, lit_43, lit_45, lit_41, lit_123, lit_49, lit_58, lit_68, c1, f_Th_countWays_L111]
            exact d1
          | true =>
            rw [hal] at c1
            obtain ⟨pic1, night1, last1, w1, s1, s2, s3⟩ := cl_go (l := l) hv (by omega) hw
            have hv1 := vd_step (l := l) hv (by omega) (by omega)
            obtain ⟨pic2, night2, last2, a2, w2, as2, fo2, tp2, sk2, r1, r2, r3⟩ := ih f (p ^^^ 2 ^ l) (k + 1) (hs H (p ^^^ 2 ^ l)) (upd la l (nI (k + 1))) pic1 night1 a1 tp1 w1 as1 fo1 last1 sk1 (by omega) hv1 (by omega) s3 hC1
            obtain ⟨pic3, night3, w3, last3, b1, b2⟩ := cl_back hv (by omega) (al_new hal) r2
            have hacc := fb_sm_succ (fun l => if al n rest shy B p k H la l = true then wys n rest shy B goal m (p ^^^ 2 ^ l) (k + 1) (hs H (p ^^^ 2 ^ l)) (upd la l (nI (k + 1))) else 0) l
            simp only [hal] at hacc
            obtain ⟨pic', night', last', a', w', as', fo', tp', sk', d1, d2, d3⟩ := ihe (l + 1) g pic3 night3 a2 tp2 w3 as2 fo2 last3 sk2 (by omega) (by omega) b2 r3
            refine ⟨pic', night', last', a', w', as', fo', tp', sk', ?_, d2, d3⟩
            rw [hacc, if_pos trivial] at d1
            simp (disch := omega) only [n_lt, n_le, n_eq, n_cl, n_sub, nI_add, pk_mul, n_subL, n_Lsub, n_neN, n_Nne, n_leN, n_ltN, n_Nlt, n_Nle, le_T, le_F, lt_T, lt_F, eq_T, eq_F, true_or, or_true, false_or, or_false, true_and, and_true, false_and, and_false, and_self, or_self, not_true_eq_false, not_false_eq_true, decide_eq_true_eq, decide_true, decide_false, Bool.false_eq_true, Bool.true_eq_false, eq_self, ↓reduceIte, Option.bind_some, mo_in, lit_0, lit_1, lit_2, lit_3, lit_4, lit_5, lit_6, lit_7, lit_8, lit_9, lit_10, lit_11, lit_12, lit_13, lit_14, lit_15, lit_16, lit_20, lit_22, lit_24, lit_28, lit_30, lit_31, lit_32, lit_39, lit_40, lit_42, lit_48, lit_50, lit_57, lit_60, lit_61, lit_62, lit_63, lit_64, lit_100, lit_120, lit_121, lit_122, lit_128, lit_130, lit_255, lit_256, lit_360, lit_1024, lit_2147483647, m1_pred, Nat.add_sub_cancel, lit_124, lit_38, lit_37, lit_33, lit_126, lit_59, lit_112, lit_108, lit_110, lit_104, lit_47, lit_43, lit_45, lit_41, lit_123, lit_49, lit_58, lit_68, c1, s1, s2, r1, b1, f_Th_countWays_L111]
            exact d1
      obtain ⟨pic', night', last', a', w', as', fo', tp', sk', d1, d2, d3⟩ := loop n 0 3000 pic night a tp w as fo last sk (by omega) (by omega) hw hC
      refine ⟨pic', night', last', a', w', as', fo', tp', sk', ?_, d2, d3⟩
      have hw' := hw
      obtain ⟨rfl, rfl, hH, hL⟩ := hw'
      rw [f_Th_countWays, f_Th_countWays_body]
      simp (disch := omega) only [n_lt, n_le, n_eq, n_cl, n_sub, nI_add, pk_mul, n_subL, n_Lsub, n_neN, n_Nne, n_leN, n_ltN, n_Nlt, n_Nle, le_T, le_F, lt_T, lt_F, eq_T, eq_F, true_or, or_true, false_or, or_false, true_and, and_true, false_and, and_false, and_self, or_self, not_true_eq_false, not_false_eq_true, decide_eq_true_eq, decide_true, decide_false, Bool.false_eq_true, Bool.true_eq_false, eq_self, ↓reduceIte, Option.bind_some, mo_in, lit_0, lit_1, lit_2, lit_3, lit_4, lit_5, lit_6, lit_7, lit_8, lit_9, lit_10, lit_11, lit_12, lit_13, lit_14, lit_15, lit_16, lit_20, lit_22, lit_24, lit_28, lit_30, lit_31, lit_32, lit_39, lit_40, lit_42, lit_48, lit_50, lit_57, lit_60, lit_61, lit_62, lit_63, lit_64, lit_100, lit_120, lit_121, lit_122, lit_128, lit_130, lit_255, lit_256, lit_360, lit_1024, lit_2147483647, m1_pred, Nat.add_sub_cancel, lit_124, lit_38, lit_37, lit_33, lit_126, lit_59, lit_112, lit_108, lit_110, lit_104, lit_47, lit_43, lit_45, lit_41, lit_123, lit_49, lit_58, lit_68, fb_xorI, e1]
      exact d1
theorem mo_ways {n goal : Nat} {B : Nat → Bool} {rest shy : Int32} {barred : Nat → Int32} (hg : goal < 2 ^ n) (hB : ∀ q, q < 2 ^ n → barred q = b2i (B q)) : ∀ (m fu p k : Nat) (H : Nat → Bool) (la : Nat → Int32) (at_ night : Int32) (mhad mlast : Nat → Int32), m < fu → vd n p k la → k + m < 1000 → mwk p k H la at_ night mhad mlast → ∃ at' night' mhad' mlast', f_Mo_waysTo fu (nI goal) (nI m) (nI n) at_ night rest shy mhad barred mlast = some (nI (wys n rest shy B goal m p k H la), at', night', mhad', mlast') ∧ mwk p k H la at' night' mhad' mlast' := by
  intro m
  induction m with
  | zero =>
    intro fu p k H la at_ night mhad mlast hfu hv hk hw
    obtain ⟨f, rfl⟩ : ∃ f, fu = f + 1 := ⟨fu - 1, by omega⟩
    have hv' := hv
    obtain ⟨h1, h10, hp, _, _⟩ := hv'
    have hpow := p_pow h10
    have hw' := hw
    obtain ⟨rfl, rfl, hH, hL⟩ := hw'
    refine ⟨nI p, nI k, mhad, mlast, ?_, hw⟩
    rw [f_Mo_waysTo, f_Mo_waysTo_body, wys]
    by_cases h : p = goal
    · rw [if_pos h]
      simp (disch := omega) only [n_lt, n_le, n_eq, n_cl, n_sub, nI_add, pk_mul, n_subL, n_Lsub, n_neN, n_Nne, n_leN, n_ltN, n_Nlt, n_Nle, le_T, le_F, lt_T, lt_F, eq_T, eq_F, true_or, or_true, false_or, or_false, true_and, and_true, false_and, and_false, and_self, or_self, not_true_eq_false, not_false_eq_true, decide_eq_true_eq, decide_true, decide_false, Bool.false_eq_true, Bool.true_eq_false, eq_self, ↓reduceIte, Option.bind_some, mo_in, lit_0, lit_1, lit_2, lit_3, lit_4, lit_5, lit_6, lit_7, lit_8, lit_9, lit_10, lit_11, lit_12, lit_13, lit_14, lit_15, lit_16, lit_20, lit_22, lit_24, lit_28, lit_30, lit_31, lit_32, lit_39, lit_40, lit_42, lit_48, lit_50, lit_57, lit_60, lit_61, lit_62, lit_63, lit_64, lit_100, lit_120, lit_121, lit_122, lit_128, lit_130, lit_255, lit_256, lit_360, lit_1024, lit_2147483647, m1_pred, Nat.add_sub_cancel, lit_124, lit_38, lit_37, lit_33, lit_126, lit_59, lit_112, lit_108, lit_110, lit_104, lit_47, lit_43, lit_45, lit_41, lit_123, lit_49, lit_58, lit_68]
    · rw [if_neg h]
      simp (disch := omega) only [n_lt, n_le, n_eq, n_cl, n_sub, nI_add, pk_mul, n_subL, n_Lsub, n_neN, n_Nne, n_leN, n_ltN, n_Nlt, n_Nle, le_T, le_F, lt_T, lt_F, eq_T, eq_F, true_or, or_true, false_or, or_false, true_and, and_true, false_and, and_false, and_self, or_self, not_true_eq_false, not_false_eq_true, decide_eq_true_eq, decide_true, decide_false, Bool.false_eq_true, Bool.true_eq_false, eq_self, ↓reduceIte, Option.bind_some, mo_in, lit_0, lit_1, lit_2, lit_3, lit_4, lit_5, lit_6, lit_7, lit_8, lit_9, lit_10, lit_11, lit_12, lit_13, lit_14, lit_15, lit_16, lit_20, lit_22, lit_24, lit_28, lit_30, lit_31, lit_32, lit_39, lit_40, lit_42, lit_48, lit_50, lit_57, lit_60, lit_61, lit_62, lit_63, lit_64, lit_100, lit_120, lit_121, lit_122, lit_128, lit_130, lit_255, lit_256, lit_360, lit_1024, lit_2147483647, m1_pred, Nat.add_sub_cancel, lit_124, lit_38, lit_37, lit_33, lit_126, lit_59, lit_112, lit_108, lit_110, lit_104, lit_47, lit_43, lit_45, lit_41, lit_123, lit_49, lit_58, lit_68]
  | succ m ih =>
    intro fu p k H la at_ night mhad mlast hfu hv hk hw
    obtain ⟨f, rfl⟩ : ∃ f, fu = f + 1 := ⟨fu - 1, by omega⟩
    have loop : ∀ (e l fu : Nat) (at_ night : Int32) (mhad mlast : Nat → Int32), l + e = n → e < fu → mwk p k H la at_ night mhad mlast → ∃ at' night' mhad' mlast', f_Mo_waysTo_L23 (f_Mo_waysTo f) fu (nI goal) (nI (m + 1)) (nI (fb_sm (fun l => if al n rest shy B p k H la l = true then wys n rest shy B goal m (p ^^^ 2 ^ l) (k + 1) (hs H (p ^^^ 2 ^ l)) (upd la l (nI (k + 1))) else 0) l)) (nI l) (nI n) at_ night rest shy mhad barred mlast = some (nI (wys n rest shy B goal (m + 1) p k H la), at', night', mhad', mlast') ∧ mwk p k H la at' night' mhad' mlast' := by
      have h10 := hv.2.1
      intro e
      induction e with
      | zero =>
        intro l fu at_ night mhad mlast hl hfu hw
        obtain ⟨g, rfl⟩ : ∃ g, fu = g + 1 := ⟨fu - 1, by omega⟩
        obtain rfl : l = n := by omega
        refine ⟨at_, night, mhad, mlast, ?_, hw⟩
        rw [f_Mo_waysTo_L23]
        simp (disch := omega) only [n_lt, n_le, n_eq, n_cl, n_sub, nI_add, pk_mul, n_subL, n_Lsub, n_neN, n_Nne, n_leN, n_ltN, n_Nlt, n_Nle, le_T, le_F, lt_T, lt_F, eq_T, eq_F, true_or, or_true, false_or, or_false, true_and, and_true, false_and, and_false, and_self, or_self, not_true_eq_false, not_false_eq_true, decide_eq_true_eq, decide_true, decide_false, Bool.false_eq_true, Bool.true_eq_false, eq_self, ↓reduceIte, Option.bind_some, mo_in, lit_0, lit_1, lit_2, lit_3, lit_4, lit_5, lit_6, lit_7, lit_8, lit_9, lit_10, lit_11, lit_12, lit_13, lit_14, lit_15, lit_16, lit_20, lit_22, lit_24, lit_28, lit_30, lit_31, lit_32, lit_39, lit_40, lit_42, lit_48, lit_50, lit_57, lit_60, lit_61, lit_62, lit_63, lit_64, lit_100, lit_120, lit_121, lit_122, lit_128, lit_130, lit_255, lit_256, lit_360, lit_1024, lit_2147483647, m1_pred, Nat.add_sub_cancel, lit_124, lit_38, lit_37, lit_33, lit_126, lit_59, lit_112, lit_108, lit_110, lit_104, lit_47, lit_43, lit_45, lit_41, lit_123, lit_49, lit_58, lit_68]
        rfl
      | succ e ihe =>
        intro l fu at_ night mhad mlast hl hfu hw
        obtain ⟨g, rfl⟩ : ∃ g, fu = g + 1 := ⟨fu - 1, by omega⟩
        have c1 := mo_may (l := l) hv (by omega) hw hB (rest := rest) (shy := shy)
        rw [f_Mo_waysTo_L23]
        cases hal : al n rest shy B p k H la l with
        | false =>
          rw [hal] at c1
          have hacc := fb_sm_succ (fun l => if al n rest shy B p k H la l = true then wys n rest shy B goal m (p ^^^ 2 ^ l) (k + 1) (hs H (p ^^^ 2 ^ l)) (upd la l (nI (k + 1))) else 0) l
          simp only [hal] at hacc
          obtain ⟨at', night', mhad', mlast', d1, d2⟩ := ihe (l + 1) g at_ night mhad mlast (by omega) (by omega) hw
          refine ⟨at', night', mhad', mlast', ?_, d2⟩
          rw [hacc, if_neg (by decide), Nat.add_zero] at d1
          simp (disch := omega) only [n_lt, n_le, n_eq, n_cl, n_sub, nI_add, pk_mul, n_subL, n_Lsub, n_neN, n_Nne, n_leN, n_ltN, n_Nlt, n_Nle, le_T, le_F, lt_T, lt_F, eq_T, eq_F, true_or, or_true, false_or, or_false, true_and, and_true, false_and, and_false, and_self, or_self, not_true_eq_false, not_false_eq_true, decide_eq_true_eq, decide_true, decide_false, Bool.false_eq_true, Bool.true_eq_false, eq_self, ↓reduceIte, Option.bind_some, mo_in, lit_0, lit_1, lit_2, lit_3, lit_4, lit_5, lit_6, lit_7, lit_8, lit_9, lit_10, lit_11, lit_12, lit_13, lit_14, lit_15, lit_16, lit_20, lit_22, lit_24, lit_28, lit_30, lit_31, lit_32, lit_39, lit_40, lit_42, lit_48, lit_50, lit_57, lit_60, lit_61, lit_62, lit_63, lit_64, lit_100, lit_120, lit_121, lit_122, lit_128, lit_130, lit_255, lit_256, lit_360, lit_1024, lit_2147483647, m1_pred, Nat.add_sub_cancel, lit_124, lit_38, lit_37, lit_33, lit_126, lit_59, lit_112, lit_108, lit_110, lit_104, lit_47, lit_43, lit_45, lit_41, lit_123, lit_49, lit_58, lit_68, c1, f_Mo_waysTo_L71]
          exact d1
        | true =>
          rw [hal] at c1
          obtain ⟨at1, night1, mlast1, mhad1, s1, s3⟩ := mo_go (l := l) hv (by omega) hw
          have hv1 := vd_step (l := l) hv (by omega) (by omega)
          obtain ⟨at2, night2, mhad2, mlast2, r1, r2⟩ := ih f (p ^^^ 2 ^ l) (k + 1) (hs H (p ^^^ 2 ^ l)) (upd la l (nI (k + 1))) at1 night1 mhad1 mlast1 (by omega) hv1 (by omega) s3
          obtain ⟨at3, night3, mlast3, mhad3, b1, b2⟩ := mo_back hv (by omega) (al_new hal) r2
          have hacc := fb_sm_succ (fun l => if al n rest shy B p k H la l = true then wys n rest shy B goal m (p ^^^ 2 ^ l) (k + 1) (hs H (p ^^^ 2 ^ l)) (upd la l (nI (k + 1))) else 0) l
          simp only [hal] at hacc
          obtain ⟨at', night', mhad', mlast', d1, d2⟩ := ihe (l + 1) g at3 night3 mhad3 mlast3 (by omega) (by omega) b2
          refine ⟨at', night', mhad', mlast', ?_, d2⟩
          rw [hacc, if_pos trivial] at d1
          simp (disch := omega) only [n_lt, n_le, n_eq, n_cl, n_sub, nI_add, pk_mul, n_subL, n_Lsub, n_neN, n_Nne, n_leN, n_ltN, n_Nlt, n_Nle, le_T, le_F, lt_T, lt_F, eq_T, eq_F, true_or, or_true, false_or, or_false, true_and, and_true, false_and, and_false, and_self, or_self, not_true_eq_false, not_false_eq_true, decide_eq_true_eq, decide_true, decide_false, Bool.false_eq_true, Bool.true_eq_false, eq_self, ↓reduceIte, Option.bind_some, mo_in, lit_0, lit_1, lit_2, lit_3, lit_4, lit_5, lit_6, lit_7, lit_8, lit_9, lit_10, lit_11, lit_12, lit_13, lit_14, lit_15, lit_16, lit_20, lit_22, lit_24, lit_28, lit_30, lit_31, lit_32, lit_39, lit_40, lit_42, lit_48, lit_50, lit_57, lit_60, lit_61, lit_62, lit_63, lit_64, lit_100, lit_120, lit_121, lit_122, lit_128, lit_130, lit_255, lit_256, lit_360, lit_1024, lit_2147483647, m1_pred, Nat.add_sub_cancel, lit_124, lit_38, lit_37, lit_33, lit_126, lit_59, lit_112, lit_108, lit_110, lit_104, lit_47, lit_43, lit_45, lit_41, lit_123, lit_49, lit_58, lit_68, c1, s1, r1, b1, f_Mo_waysTo_L71]
          exact d1
    have h10 := hv.2.1
    obtain ⟨at', night', mhad', mlast', d1, d2⟩ := loop n 0 3000 at_ night mhad mlast (by omega) (by omega) hw
    refine ⟨at', night', mhad', mlast', ?_, d2⟩
    rw [f_Mo_waysTo, f_Mo_waysTo_body]
    simp (disch := omega) only [n_lt, n_le, n_eq, n_cl, n_sub, nI_add, pk_mul, n_subL, n_Lsub, n_neN, n_Nne, n_leN, n_ltN, n_Nlt, n_Nle, le_T, le_F, lt_T, lt_F, eq_T, eq_F, true_or, or_true, false_or, or_false, true_and, and_true, false_and, and_false, and_self, or_self, not_true_eq_false, not_false_eq_true, decide_eq_true_eq, decide_true, decide_false, Bool.false_eq_true, Bool.true_eq_false, eq_self, ↓reduceIte, Option.bind_some, mo_in, lit_0, lit_1, lit_2, lit_3, lit_4, lit_5, lit_6, lit_7, lit_8, lit_9, lit_10, lit_11, lit_12, lit_13, lit_14, lit_15, lit_16, lit_20, lit_22, lit_24, lit_28, lit_30, lit_31, lit_32, lit_39, lit_40, lit_42, lit_48, lit_50, lit_57, lit_60, lit_61, lit_62, lit_63, lit_64, lit_100, lit_120, lit_121, lit_122, lit_128, lit_130, lit_255, lit_256, lit_360, lit_1024, lit_2147483647, m1_pred, Nat.add_sub_cancel, lit_124, lit_38, lit_37, lit_33, lit_126, lit_59, lit_112, lit_108, lit_110, lit_104, lit_47, lit_43, lit_45, lit_41, lit_123, lit_49, lit_58, lit_68]
    exact d1
/-- the thought's wall becomes the true one -/
theorem th_become {p k : Nat} {l0 pic night s0 l1 p1 n1 s1 : Int32} {had told h1 t1 : Nat → Int64} {last often la1 of1 : Nat → Int32} (hc : cwk p k (bitw had) last pic night had last) : ∃ w t la of, f_Wa_become l0 pic night s0 l1 p1 n1 s1 h1 had t1 told last la1 often of1 = some (l0, pic, night, s0, w, t, la, of) ∧ cwk p k (bitw had) last pic night w la ∧ ∀ q, q < 1024 → bitw t q = bitw told q := by
  obtain ⟨w, t, la, of, e, g1, g2⟩ := wa_become l0 pic night s0 l1 p1 n1 s1 h1 had t1 told last la1 often of1
  exact ⟨w, t, la, of, e, ⟨hc.1, hc.2.1, fun q hq => (g1 q hq).1, fun j hj => (g2 j hj).1⟩, fun q hq => (g1 q hq).2⟩
theorem ok_ways {t : Nat} {x_L_wall_lamps : Int32} {x_L_wall_picture : Int32} {x_L_wall_night : Int32} {x_L_wall_spent : Int32} {x_L_wall_had_words : Nat → Int64} {x_L_wall_told_words : Nat → Int64} {x_L_wall_last : Nat → Int32} {x_L_wall_often : Nat → Int32} {x_M_lamps : Int32} {x_M_at : Int32} {x_M_night : Int32} {x_M_spent : Int32} {x_M_had : Nat → Int32} {x_M_told : Nat → Int32} {x_M_last : Nat → Int32} {x_M_often : Nat → Int32} {x_M_hasBegun : Bool} {x_L_rules_rest : Int32} {x_L_rules_shy : Int32} {x_M_rest : Int32} {x_M_shy : Int32} {x_L_rules_askedForLamps : Int32} {x_L_rules_asked_words : Nat → Int64} {x_L_rules_forbidden_words : Nat → Int64} {x_L_rules_law_code : Nat → Int32} {x_L_rules_law_length : Int32} {x_M_hasLaw : Bool} {x_M_act : Nat → Int32} {x_M_with : Nat → Int32} {x_M_lineMany : Nat → Int32} {x_M_testEnd : Nat → Int32} {x_M_lineEnd : Nat → Int32} {x_L_thought_wall_lamps : Int32} {x_L_thought_wall_picture : Int32} {x_L_thought_wall_night : Int32} {x_L_thought_wall_spent : Int32} {x_L_thought_wall_had_words : Nat → Int64} {x_L_thought_wall_told_words : Nat → Int64} {x_L_thought_wall_last : Nat → Int32} {x_L_thought_wall_often : Nat → Int32} {x_L_rules_law_top : Int32} {x_L_rules_law_stack : Nat → Int32} {x_M_facts : Nat → Int32} {x_M_pile : Nat → Int32} {x_M_barred : Nat → Int32} (ht : t < 64) (p1 : Int32) (p2 : Int32) (hW : R_wall t x_L_wall_lamps x_L_wall_picture x_L_wall_night x_L_wall_spent x_L_wall_had_words x_L_wall_told_words x_L_wall_last x_L_wall_often x_M_lamps x_M_at x_M_night x_M_spent x_M_had x_M_told x_M_last x_M_often x_M_hasBegun) (hU : R_set x_L_rules_rest x_L_rules_shy x_M_rest x_M_shy) (hG : R_lw x_L_rules_askedForLamps x_L_rules_asked_words x_L_rules_forbidden_words x_L_rules_law_code x_L_rules_law_length x_M_hasLaw x_M_act x_M_with x_M_lineMany x_M_testEnd x_M_lineEnd) : ∃ (r : Int32) (u_L_thought_wall_lamps : Int32) (u_L_thought_wall_picture : Int32) (u_L_thought_wall_night : Int32) (u_L_thought_wall_spent : Int32) (u_L_thought_wall_had_words : Nat → Int64) (u_L_thought_wall_told_words : Nat → Int64) (u_L_thought_wall_last : Nat → Int32) (u_L_thought_wall_often : Nat → Int32) (u_L_rules_askedForLamps : Int32) (u_L_rules_asked_words : Nat → Int64) (u_L_rules_forbidden_words : Nat → Int64) (u_L_rules_law_top : Int32) (u_L_rules_law_stack : Nat → Int32) (u_M_at : Int32) (u_M_night : Int32) (u_M_spent : Int32) (u_M_hasBegun : Bool) (u_M_had : Nat → Int32) (u_M_last : Nat → Int32) (u_M_often : Nat → Int32) (u_M_facts : Nat → Int32) (u_M_pile : Nat → Int32) (u_M_barred : Nat → Int32), f_OL_ways p1 p2 x_L_wall_lamps x_L_wall_picture x_L_wall_night x_L_wall_spent x_L_thought_wall_lamps x_L_thought_wall_picture x_L_thought_wall_night x_L_thought_wall_spent x_L_thought_wall_had_words x_L_wall_had_words x_L_thought_wall_told_words x_L_wall_told_words x_L_wall_last x_L_thought_wall_last x_L_wall_often x_L_thought_wall_often x_L_rules_rest x_L_rules_shy x_L_rules_askedForLamps x_L_rules_asked_words x_L_rules_forbidden_words x_L_rules_law_length x_L_rules_law_top x_L_rules_law_code x_L_rules_law_stack = some (r, u_L_thought_wall_lamps, u_L_thought_wall_picture, u_L_thought_wall_night, u_L_thought_wall_spent, u_L_thought_wall_had_words, u_L_thought_wall_told_words, u_L_thought_wall_last, u_L_thought_wall_often, u_L_rules_askedForLamps, u_L_rules_asked_words, u_L_rules_forbidden_words, u_L_rules_law_top, u_L_rules_law_stack) ∧ f_Mo_ways p1 p2 x_M_lamps x_M_at x_M_night x_M_spent x_M_rest x_M_shy x_M_hasBegun x_M_hasLaw x_M_had x_M_last x_M_often x_M_told x_M_facts x_M_lineMany x_M_testEnd x_M_act x_M_pile x_M_with x_M_lineEnd x_M_barred = some (r, u_M_at, u_M_night, u_M_spent, u_M_hasBegun, u_M_had, u_M_last, u_M_often, u_M_facts, u_M_pile, u_M_barred) ∧ R_wall t x_L_wall_lamps x_L_wall_picture x_L_wall_night x_L_wall_spent x_L_wall_had_words x_L_wall_told_words x_L_wall_last x_L_wall_often x_M_lamps u_M_at u_M_night u_M_spent u_M_had x_M_told u_M_last u_M_often u_M_hasBegun ∧ R_lw u_L_rules_askedForLamps u_L_rules_asked_words u_L_rules_forbidden_words x_L_rules_law_code x_L_rules_law_length x_M_hasLaw x_M_act x_M_with x_M_lineMany x_M_testEnd x_M_lineEnd ∧ (x_M_hasBegun = true → u_M_hasBegun = true) := by
  obtain ⟨mh, ml, mo, e0, hR⟩ := wall_ready hW
  obtain ⟨n, p, k, hk, rfl, rfl, hv, hc, hm, hT, hb1, hb2, _, _, _⟩ := wall_open ht hR
  have h10 := hv.2.1
  have h1 := hv.1
  have hpow := p_pow h10
  have hGx := hG
  obtain ⟨rfl, rfl⟩ := hU
  obtain ⟨lines, hS, hC⟩ := R_lw_of.mp hG
  rcases n_cases p1 with a | ⟨q, hq, rfl⟩
  · simp (disch := omega) only [n_lt, n_le, n_eq, n_cl, n_sub, nI_add, pk_mul, n_subL, n_Lsub, n_neN, n_Nne, n_leN, n_ltN, n_Nlt, n_Nle, le_T, le_F, lt_T, lt_F, eq_T, eq_F, true_or, or_true, false_or, or_false, true_and, and_true, false_and, and_false, and_self, or_self, not_true_eq_false, not_false_eq_true, decide_eq_true_eq, decide_true, decide_false, Bool.false_eq_true, Bool.true_eq_false, eq_self, ↓reduceIte, Option.bind_some, mo_in, lit_0, lit_1, lit_2, lit_3, lit_4, lit_5, lit_6, lit_7, lit_8, lit_9, lit_10, lit_11, lit_12, lit_13, lit_14, lit_15, lit_16, lit_20, lit_22, lit_24, lit_28, lit_30, lit_31, lit_32, lit_39, lit_40, lit_42, lit_48, lit_50, lit_57, lit_60, lit_61, lit_62, lit_63, lit_64, lit_100, lit_120, lit_121, lit_122, lit_128, lit_130, lit_255, lit_256, lit_360, lit_1024, lit_2147483647, f_OL_ways, f_Mo_ways, e0, wa_pic_neg a, mo_pic_neg a h10]
    exact ⟨_, _, _, _, _, _, _, _, _, _, _, _, _, _, _, _, _, _, _, _, _, _, _, _, rfl, rfl, hR, hGx, fun _ => rfl⟩
  have i1 := wa_pic hq h10
  have i2 := mo_pic hq h10
  by_cases hqn : q < 2 ^ n
  rotate_left
  · simp (disch := omega) only [n_lt, n_le, n_eq, n_cl, n_sub, nI_add, pk_mul, n_subL, n_Lsub, n_neN, n_Nne, n_leN, n_ltN, n_Nlt, n_Nle, le_T, le_F, lt_T, lt_F, eq_T, eq_F, true_or, or_true, false_or, or_false, true_and, and_true, false_and, and_false, and_self, or_self, not_true_eq_false, not_false_eq_true, decide_eq_true_eq, decide_true, decide_false, Bool.false_eq_true, Bool.true_eq_false, eq_self, ↓reduceIte, Option.bind_some, mo_in, lit_0, lit_1, lit_2, lit_3, lit_4, lit_5, lit_6, lit_7, lit_8, lit_9, lit_10, lit_11, lit_12, lit_13, lit_14, lit_15, lit_16, lit_20, lit_22, lit_24, lit_28, lit_30, lit_31, lit_32, lit_39, lit_40, lit_42, lit_48, lit_50, lit_57, lit_60, lit_61, lit_62, lit_63, lit_64, lit_100, lit_120, lit_121, lit_122, lit_128, lit_130, lit_255, lit_256, lit_360, lit_1024, lit_2147483647, f_OL_ways, f_Mo_ways, e0, i1, i2]
    exact ⟨_, _, _, _, _, _, _, _, _, _, _, _, _, _, _, _, _, _, _, _, _, _, _, _, rfl, rfl, hR, hGx, fun _ => rfl⟩
  rcases n_cases p2 with b | ⟨m, hm2, rfl⟩
  · simp (disch := omega) only [n_lt, n_le, n_eq, n_cl, n_sub, nI_add, pk_mul, n_subL, n_Lsub, n_neN, n_Nne, n_leN, n_ltN, n_Nlt, n_Nle, le_T, le_F, lt_T, lt_F, eq_T, eq_F, true_or, or_true, false_or, or_false, true_and, and_true, false_and, and_false, and_self, or_self, not_true_eq_false, not_false_eq_true, decide_eq_true_eq, decide_true, decide_false, Bool.false_eq_true, Bool.true_eq_false, eq_self, ↓reduceIte, Option.bind_some, mo_in, lit_0, lit_1, lit_2, lit_3, lit_4, lit_5, lit_6, lit_7, lit_8, lit_9, lit_10, lit_11, lit_12, lit_13, lit_14, lit_15, lit_16, lit_20, lit_22, lit_24, lit_28, lit_30, lit_31, lit_32, lit_39, lit_40, lit_42, lit_48, lit_50, lit_57, lit_60, lit_61, lit_62, lit_63, lit_64, lit_100, lit_120, lit_121, lit_122, lit_128, lit_130, lit_255, lit_256, lit_360, lit_1024, lit_2147483647, f_OL_ways, f_Mo_ways, e0, i1, i2, m_lt b, m_le b, m_gt b, m_ge b, m_eq b]
    exact ⟨_, _, _, _, _, _, _, _, _, _, _, _, _, _, _, _, _, _, _, _, _, _, _, _, rfl, rfl, hR, hGx, fun _ => rfl⟩
  by_cases hm5 : m ≤ 5
  rotate_left
  · simp (disch := omega) only [n_lt, n_le, n_eq, n_cl, n_sub, nI_add, pk_mul, n_subL, n_Lsub, n_neN, n_Nne, n_leN, n_ltN, n_Nlt, n_Nle, le_T, le_F, lt_T, lt_F, eq_T, eq_F, true_or, or_true, false_or, or_false, true_and, and_true, false_and, and_false, and_self, or_self, not_true_eq_false, not_false_eq_true, decide_eq_true_eq, decide_true, decide_false, Bool.false_eq_true, Bool.true_eq_false, eq_self, ↓reduceIte, Option.bind_some, mo_in, lit_0, lit_1, lit_2, lit_3, lit_4, lit_5, lit_6, lit_7, lit_8, lit_9, lit_10, lit_11, lit_12, lit_13, lit_14, lit_15, lit_16, lit_20, lit_22, lit_24, lit_28, lit_30, lit_31, lit_32, lit_39, lit_40, lit_42, lit_48, lit_50, lit_57, lit_60, lit_61, lit_62, lit_63, lit_64, lit_100, lit_120, lit_121, lit_122, lit_128, lit_130, lit_255, lit_256, lit_360, lit_1024, lit_2147483647, f_OL_ways, f_Mo_ways, e0, i1, i2]
    exact ⟨_, _, _, _, _, _, _, _, _, _, _, _, _, _, _, _, _, _, _, _, _, _, _, _, rfl, rfl, hR, hGx, fun _ => rfl⟩
  obtain ⟨fa, pi, ba, e1, hB⟩ := mo_find hS h10 hT x_M_facts x_M_pile x_M_barred
  obtain ⟨w, t', la, of, e2, hc2, ht2⟩ := th_become (l0 := nI n) (s0 := x_L_wall_spent) (l1 := x_L_thought_wall_lamps) (p1 := x_L_thought_wall_picture) (n1 := x_L_thought_wall_night) (s1 := x_L_thought_wall_spent) (h1 := x_L_thought_wall_had_words) (t1 := x_L_thought_wall_told_words) (told := x_L_wall_told_words) (often := x_L_wall_often) (la1 := x_L_thought_wall_last) (of1 := x_L_thought_wall_often) hc
  obtain ⟨pic', night', last', a', w', as', fo', tp', sk', e3, _, hC'⟩ := cl_ways (B := fun q => bitw x_L_wall_told_words q || decide (lw_lines (lw_env n q) lines ≠ 0)) (rest := x_M_rest) (shy := x_M_shy) (told := t') hS hqn (fun q hq => by rw [ht2 q hq]) m 8 p k (bitw x_L_wall_had_words) x_L_wall_last x_L_wall_picture x_L_wall_night x_L_rules_askedForLamps x_L_rules_law_top w x_L_rules_asked_words x_L_rules_forbidden_words la x_L_rules_law_stack (by omega) hv (by omega) hc2 hC
  obtain ⟨at', night2, mhad', mlast', e4, hm'⟩ := mo_ways (B := fun q => bitw x_L_wall_told_words q || decide (lw_lines (lw_env n q) lines ≠ 0)) (rest := x_M_rest) (shy := x_M_shy) hqn hB m 8 p k (bitw x_L_wall_had_words) x_L_wall_last x_M_at x_M_night mh ml (by omega) hv (by omega) hm
  simp (disch := omega) only [n_lt, n_le, n_eq, n_cl, n_sub, nI_add, pk_mul, n_subL, n_Lsub, n_neN, n_Nne, n_leN, n_ltN, n_Nlt, n_Nle, le_T, le_F, lt_T, lt_F, eq_T, eq_F, true_or, or_true, false_or, or_false, true_and, and_true, false_and, and_false, and_self, or_self, not_true_eq_false, not_false_eq_true, decide_eq_true_eq, decide_true, decide_false, Bool.false_eq_true, Bool.true_eq_false, eq_self, ↓reduceIte, Option.bind_some, mo_in, lit_0, lit_1, lit_2, lit_3, lit_4, lit_5, lit_6, lit_7, lit_8, lit_9, lit_10, lit_11, lit_12, lit_13, lit_14, lit_15, lit_16, lit_20, lit_22, lit_24, lit_28, lit_30, lit_31, lit_32, lit_39, lit_40, lit_42, lit_48, lit_50, lit_57, lit_60, lit_61, lit_62, lit_63, lit_64, lit_100, lit_120, lit_121, lit_122, lit_128, lit_130, lit_255, lit_256, lit_360, lit_1024, lit_2147483647, f_OL_ways, f_Th_waysFrom, f_Mo_ways, e0, i1, i2, e1, e2, e3, e4]
  exact ⟨_, _, _, _, _, _, _, _, _, _, _, _, _, _, _, _, _, _, _, _, _, _, _, _, rfl, rfl, wall_same hR hc hm', R_lw_of.mpr ⟨lines, hS, hC'⟩, fun _ => rfl⟩
