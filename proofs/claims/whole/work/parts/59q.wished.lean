/-! PURE: wished -/
def orr (f : Nat → Nat) : Nat → Nat
  | 0 => 0
  | l + 1 => orr f l ||| f l
/-- the pictures that can be had in the t-th night from now -/
def cms (n : Nat) (rest shy : Int32) (B : Nat → Bool) : Nat → Nat → Nat → (Nat → Bool) → (Nat → Int32) → Nat
  | 0, p, _, _, _ => 2 ^ p
  | t + 1, p, k, H, la => orr (fun l => if al n rest shy B p k H la l = true then cms n rest shy B t (p ^^^ 2 ^ l) (k + 1) (hs H (p ^^^ 2 ^ l)) (upd la l (nI (k + 1))) else 0) n
theorem orr_bit (f : Nat → Nat) (q : Nat) : ∀ n, (orr f n).testBit q = true → ∃ l, l < n ∧ (f l).testBit q = true
  | 0, h => by simp [orr] at h
  | n + 1, h => by
    rw [orr, Nat.testBit_or] at h
    cases c : (f n).testBit q with
    | true => exact ⟨n, by omega, c⟩
    | false =>
      rw [c, Bool.or_false] at h
      obtain ⟨l, hl, h2⟩ := orr_bit f q n h
      exact ⟨l, by omega, h2⟩
theorem al_bar {n : Nat} {rest shy : Int32} {B : Nat → Bool} {p k : Nat} {H : Nat → Bool} {la : Nat → Int32} {l : Nat} (h : al n rest shy B p k H la l = true) : B (p ^^^ 2 ^ l) = false := by
  unfold al at h
  simp only [Bool.and_eq_true] at h
  simpa using h.2.2.1
def tgt (p t : Nat) : Bool := if t % 2 = 0 then par p else !par p
theorem cms_sub {n : Nat} {rest shy : Int32} {B : Nat → Bool} (hn : n ≤ 4) : ∀ (t p k : Nat) (H : Nat → Bool) (la : Nat → Int32) (R : Nat → Bool) (q : Nat), p < 2 ^ n → good n p H B R → (cms n rest shy B (t + 1) p k H la).testBit q = true → R q = true ∧ q < 16 ∧ par q = tgt p (t + 1) ∧ t + 1 ≤ mst (cnt R (!par p)) (cnt R (par p)) := by
  have h16 : 2 ^ n ≤ 2 ^ 4 := Nat.pow_le_pow_right (by decide) hn
  intro t
  induction t with
  | zero =>
    intro p k H la R q hp hg h
    rw [cms] at h
    obtain ⟨l, hl, h2⟩ := orr_bit _ _ _ h
    have hq := x_lt (l := l) hp hl
    cases hal : al n rest shy B p k H la l with
    | false => simp [hal] at h2
    | true =>
      have h2' : (2 ^ (p ^^^ 2 ^ l)).testBit q = true := by simpa [hal, cms] using h2
      rw [Nat.testBit_two_pow] at h2'
      have e : p ^^^ 2 ^ l = q := by simpa using h2'
      obtain ⟨g1, g2⟩ := good_step hl hp hg (al_new hal) (al_bar hal)
      obtain ⟨c1, c2⟩ := cnt_less hl hn hp g1
      have m := mst_step c1 c2
      have hpf := par_flip p (by omega) l (by omega)
      rw [← e]
      refine ⟨g1, by omega, ?_, by omega⟩
      rw [hpf]; rfl
  | succ t ih =>
    intro p k H la R q hp hg h
    rw [cms] at h
    obtain ⟨l, hl, h2⟩ := orr_bit _ _ _ h
    have hq := x_lt (l := l) hp hl
    cases hal : al n rest shy B p k H la l with
    | false => simp [hal] at h2
    | true =>
      have h2' : (cms n rest shy B (t + 1) (p ^^^ 2 ^ l) (k + 1) (hs H (p ^^^ 2 ^ l)) (upd la l (nI (k + 1)))).testBit q = true := by simpa [hal] using h2
      obtain ⟨g1, g2⟩ := good_step hl hp hg (al_new hal) (al_bar hal)
      obtain ⟨c1, c2⟩ := cnt_less hl hn hp g1
      have m := mst_step c1 c2
      have hpf := par_flip p (by omega) l (by omega)
      obtain ⟨r1, r2, r3, r4⟩ := ih (p ^^^ 2 ^ l) (k + 1) (hs H (p ^^^ 2 ^ l)) (upd la l (nI (k + 1))) (less R (p ^^^ 2 ^ l)) q hq g2 h2'
      refine ⟨?_, r2, ?_, by omega⟩
      · unfold less at r1; simp at r1; exact r1.1
      · rw [r3]
        unfold tgt
        rw [hpf]
        by_cases c : (t + 1) % 2 = 0
        · rw [if_pos c, if_neg (by omega)]
        · rw [if_neg c, if_pos (by omega), Bool.not_not]
theorem or_same {a b : Nat} (h : ∀ q, b.testBit q = true → a.testBit q = true) : a ||| b = a := by
  apply Nat.eq_of_testBit_eq
  intro q
  rw [Nat.testBit_or]
  cases c : b.testBit q with
  | false => simp
  | true => rw [h q c]; rfl
theorem not_bit2 {h q : Nat} (hq : q < 32) : (h ^^^ 4294967295).testBit q = !h.testBit q := by
  rw [Nat.testBit_xor, show (4294967295 : Nat) = 2 ^ 32 - 1 from rfl, Nat.testBit_two_pow_sub_one]
  simp [hq]
theorem th_can {n p t fd : Nat} {H B : Nat → Bool} {w : Nat → Int64} (hn1 : 1 ≤ n) (hn : n ≤ 4) (hp : p < 2 ^ n) (ht : t < 100) (hH : ∀ q, q < 1024 → bitw w q = H q) (hpH : H p = true) {o : Nat} (ho : ∀ i, o.testBit i = (decide (i < 2 ^ n) && !B i)) : ∃ (R : Nat → Bool) (b : Bool), good n p H B R ∧ f_Th_canFindMore (nI t) (nI o) (nI fd) (nI p) w = some b ∧ (b = false → (∀ q, q < 16 → R q = true → par q = tgt p t → fd.testBit q = true) ∨ mst (cnt R (!par p)) (cnt R (par p)) < t) := by
  have h16 : 2 ^ n ≤ 2 ^ 4 := Nat.pow_le_pow_right (by decide) hn
  obtain ⟨r, e1, hr, hg⟩ := th_reach hn1 hn hp hH hpH ho
  have e2 := th_most hr (show p < 16 by omega)
  have e3 := ji_count (n := p) (by omega)
  rw [bits_10 p (by omega)] at e3
  have l3 := lw_bits_le p 10
  have c4 : nI (lw_bits p 10 + t) - nI (lw_bits p 10 + t) / nI 2 * nI 2 = nI ((lw_bits p 10 + t) % 2) := n_rem (by omega) 2 (by omega) (by omega)
  have l1 : cnt (fun q => r.testBit q) (!par p) ≤ 16 := fb_ct_le _ _
  have l2 : cnt (fun q => r.testBit q) (par p) ≤ 16 := fb_ct_le _ _
  have lm : mst (cnt (fun q => r.testBit q) (!par p)) (cnt (fun q => r.testBit q) (par p)) ≤ 40 := by
    unfold mst
    by_cases c : cnt (fun q => r.testBit q) (par p) < cnt (fun q => r.testBit q) (!par p)
    · rw [if_pos c]; omega
    · rw [if_neg c]; omega
  have two : ∀ (m : Nat) (e : Bool), m < 4294967296 → (∀ q, q < 16 → m.testBit q = (if e = true then par q else !par q)) → ∃ b, f_Th_canFindMore_L40 (nI t) (nI r) (nI m) (nI r) (nI fd) (nI p) = some b ∧ (b = false → (∀ q, q < 16 → r.testBit q = true → par q = e → fd.testBit q = true) ∨ mst (cnt (fun q => r.testBit q) (!par p)) (cnt (fun q => r.testBit q) (par p)) < t) := by
    intro m e hm hbit
    have hlt : r &&& m &&& (fd ^^^ 4294967295) < 65536 := Nat.lt_of_le_of_lt (Nat.le_trans Nat.and_le_left Nat.and_le_left) hr
    unfold f_Th_canFindMore_L40
    rw [lit_m1, fb_xorI, fa_and, fa_and, e2]
    by_cases c : r &&& m &&& (fd ^^^ 4294967295) = 0
    · refine ⟨false, by simp (disch := omega) only [n_lt, n_le, n_eq, n_cl, n_sub, nI_add, pk_mul, n_subL, n_Lsub, n_neN, n_Nne, n_leN, n_ltN, n_Nlt, n_Nle, le_T, le_F, lt_T, lt_F, eq_T, eq_F, true_or, or_true, false_or, or_false, true_and, and_true, false_and, and_false, and_self, or_self, not_true_eq_false, not_false_eq_true, decide_eq_true_eq, decide_true, decide_false, Bool.false_eq_true, Bool.true_eq_false, eq_self, ↓reduceIte, Option.bind_some, mo_in, lit_0, lit_1, lit_2, lit_3, lit_4, lit_5, lit_6, lit_7, lit_8, lit_9, lit_10, lit_11, lit_12, lit_13, lit_14, lit_15, lit_16, lit_20, lit_22, lit_24, lit_28, lit_30, lit_31, lit_32, lit_39, lit_40, lit_42, lit_48, lit_50, lit_57, lit_60, lit_61, lit_62, lit_63, lit_64, lit_100, lit_120, lit_121, lit_122, lit_128, lit_130, lit_255, lit_256, lit_360, lit_1024, lit_2147483647, m1_pred, Nat.add_sub_cancel, lit_124, lit_38, lit_37, lit_33, lit_126, lit_59, lit_112, lit_108, lit_110, lit_104, lit_47, lit_43, lit_45, lit_41, lit_123, lit_49, lit_58, lit_68], fun _ => Or.inl (fun q hq h1 h2 => ?_)⟩
      have h3 : (r &&& m &&& (fd ^^^ 4294967295)).testBit q = false := by rw [c]; exact Nat.zero_testBit q
      rw [Nat.testBit_and, Nat.testBit_and, not_bit2 (by omega), h1, hbit q hq, h2] at h3
      cases e with
      | true => simpa using h3
      | false => simpa using h3
    · by_cases c2 : mst (cnt (fun q => r.testBit q) (!par p)) (cnt (fun q => r.testBit q) (par p)) < t
      · exact ⟨false, by simp (disch := omega) only [n_lt, n_le, n_eq, n_cl, n_sub, nI_add, pk_mul, n_subL, n_Lsub, n_neN, n_Nne, n_leN, n_ltN, n_Nlt, n_Nle, le_T, le_F, lt_T, lt_F, eq_T, eq_F, true_or, or_true, false_or, or_false, true_and, and_true, false_and, and_false, and_self, or_self, not_true_eq_false, not_false_eq_true, decide_eq_true_eq, decide_true, decide_false, Bool.false_eq_true, Bool.true_eq_false, eq_self, ↓reduceIte, Option.bind_some, mo_in, lit_0, lit_1, lit_2, lit_3, lit_4, lit_5, lit_6, lit_7, lit_8, lit_9, lit_10, lit_11, lit_12, lit_13, lit_14, lit_15, lit_16, lit_20, lit_22, lit_24, lit_28, lit_30, lit_31, lit_32, lit_39, lit_40, lit_42, lit_48, lit_50, lit_57, lit_60, lit_61, lit_62, lit_63, lit_64, lit_100, lit_120, lit_121, lit_122, lit_128, lit_130, lit_255, lit_256, lit_360, lit_1024, lit_2147483647, m1_pred, Nat.add_sub_cancel, lit_124, lit_38, lit_37, lit_33, lit_126, lit_59, lit_112, lit_108, lit_110, lit_104, lit_47, lit_43, lit_45, lit_41, lit_123, lit_49, lit_58, lit_68], fun _ => Or.inr c2⟩
      · exact ⟨true, by simp (disch := omega) only [n_lt, n_le, n_eq, n_cl, n_sub, nI_add, pk_mul, n_subL, n_Lsub, n_neN, n_Nne, n_leN, n_ltN, n_Nlt, n_Nle, le_T, le_F, lt_T, lt_F, eq_T, eq_F, true_or, or_true, false_or, or_false, true_and, and_true, false_and, and_false, and_self, or_self, not_true_eq_false, not_false_eq_true, decide_eq_true_eq, decide_true, decide_false, Bool.false_eq_true, Bool.true_eq_false, eq_self, ↓reduceIte, Option.bind_some, mo_in, lit_0, lit_1, lit_2, lit_3, lit_4, lit_5, lit_6, lit_7, lit_8, lit_9, lit_10, lit_11, lit_12, lit_13, lit_14, lit_15, lit_16, lit_20, lit_22, lit_24, lit_28, lit_30, lit_31, lit_32, lit_39, lit_40, lit_42, lit_48, lit_50, lit_57, lit_60, lit_61, lit_62, lit_63, lit_64, lit_100, lit_120, lit_121, lit_122, lit_128, lit_130, lit_255, lit_256, lit_360, lit_1024, lit_2147483647, m1_pred, Nat.add_sub_cancel, lit_124, lit_38, lit_37, lit_33, lit_126, lit_59, lit_112, lit_108, lit_110, lit_104, lit_47, lit_43, lit_45, lit_41, lit_123, lit_49, lit_58, lit_68], fun h => by cases h⟩
  have htg : tgt p t = decide ((lw_bits p 10 + t) % 2 = 0) := by
    unfold tgt par
    by_cases c : t % 2 = 0
    · rw [if_pos c]; exact decide_eq_decide.mpr (by omega)
    · rw [if_neg c]
      by_cases c2 : lw_bits p 10 % 2 = 0
      · simp [c2]; omega
      · simp [c2]; omega
  by_cases hev : (lw_bits p 10 + t) % 2 = 0
  · obtain ⟨b, h1, h2⟩ := two 38505 true (by omega) (fun q hq => by rw [(par_mask q hq).1, if_pos rfl])
    refine ⟨fun q => r.testBit q, b, hg, ?_, fun hb => ?_⟩
    · rw [← h1]
      simp (disch := omega) only [n_lt, n_le, n_eq, n_cl, n_sub, nI_add, pk_mul, n_subL, n_Lsub, n_neN, n_Nne, n_leN, n_ltN, n_Nlt, n_Nle, le_T, le_F, lt_T, lt_F, eq_T, eq_F, true_or, or_true, false_or, or_false, true_and, and_true, false_and, and_false, and_self, or_self, not_true_eq_false, not_false_eq_true, decide_eq_true_eq, decide_true, decide_false, Bool.false_eq_true, Bool.true_eq_false, eq_self, ↓reduceIte, Option.bind_some, mo_in, lit_0, lit_1, lit_2, lit_3, lit_4, lit_5, lit_6, lit_7, lit_8, lit_9, lit_10, lit_11, lit_12, lit_13, lit_14, lit_15, lit_16, lit_20, lit_22, lit_24, lit_28, lit_30, lit_31, lit_32, lit_39, lit_40, lit_42, lit_48, lit_50, lit_57, lit_60, lit_61, lit_62, lit_63, lit_64, lit_100, lit_120, lit_121, lit_122, lit_128, lit_130, lit_255, lit_256, lit_360, lit_1024, lit_2147483647, m1_pred, Nat.add_sub_cancel, lit_124, lit_38, lit_37, lit_33, lit_126, lit_59, lit_112, lit_108, lit_110, lit_104, lit_47, lit_43, lit_45, lit_41, lit_123, lit_49, lit_58, lit_68, f_Th_canFindMore, e1, e3, c4, hev, f_Th_canFindMore_L27, lit_38505]
    · rw [htg, show decide ((lw_bits p 10 + t) % 2 = 0) = true by simp [hev]]
      exact h2 hb
  · obtain ⟨b, h1, h2⟩ := two 4294928790 false (by omega) (fun q hq => by rw [(par_mask q hq).2, if_neg (by decide)])
    refine ⟨fun q => r.testBit q, b, hg, ?_, fun hb => ?_⟩
    · rw [← h1]
      simp (disch := omega) only [n_lt, n_le, n_eq, n_cl, n_sub, nI_add, pk_mul, n_subL, n_Lsub, n_neN, n_Nne, n_leN, n_ltN, n_Nlt, n_Nle, le_T, le_F, lt_T, lt_F, eq_T, eq_F, true_or, or_true, false_or, or_false, true_and, and_true, false_and, and_false, and_self, or_self, not_true_eq_false, not_false_eq_true, decide_eq_true_eq, decide_true, decide_false, Bool.false_eq_true, Bool.true_eq_false, eq_self, ↓reduceIte, Option.bind_some, mo_in, lit_0, lit_1, lit_2, lit_3, lit_4, lit_5, lit_6, lit_7, lit_8, lit_9, lit_10, lit_11, lit_12, lit_13, lit_14, lit_15, lit_16, lit_20, lit_22, lit_24, lit_28, lit_30, lit_31, lit_32, lit_39, lit_40, lit_42, lit_48, lit_50, lit_57, lit_60, lit_61, lit_62, lit_63, lit_64, lit_100, lit_120, lit_121, lit_122, lit_128, lit_130, lit_255, lit_256, lit_360, lit_1024, lit_2147483647, m1_pred, Nat.add_sub_cancel, lit_124, lit_38, lit_37, lit_33, lit_126, lit_59, lit_112, lit_108, lit_110, lit_104, lit_47, lit_43, lit_45, lit_41, lit_123, lit_49, lit_58, lit_68, f_Th_canFindMore, e1, e3, c4, hev, f_Th_canFindMore_L27]
      rw [lit_38506]
    · rw [htg, show decide ((lw_bits p 10 + t) % 2 = 0) = false by simp [hev]]
      exact h2 hb
theorem cl_wished {lines : List (List Int32 × List Int32)} {code act with_ lineMany testEnd lineEnd : Nat → Int32} {len : Int32} {hasLaw : Bool} (hS : lw_S lines code len hasLaw act with_ lineMany testEnd lineEnd) {n o : Nat} {B : Nat → Bool} {rest shy : Int32} {told : Nat → Int64} (hn : n ≤ 4) (hB : ∀ q, q < 1024 → (bitw told q || decide (lw_lines (lw_env n q) lines ≠ 0)) = B q) (ho : ∀ i, o.testBit i = (decide (i < 2 ^ n) && !B i)) : ∀ (t fu fd p k : Nat) (H : Nat → Bool) (la : Nat → Int32) (pic night a tp : Int32) (w as fo : Nat → Int64) (last sk : Nat → Int32), t < fu → t < 100 → vd n p k la → H p = true → k + t < 1000 → cwk p k H la pic night w last → lw_C lines a as fo → ∃ pic' night' last' a' w' as' fo' tp' sk', f_Th_seekWished fu (nI t) (nI o) (nI fd) (nI n) pic night w last rest shy a as fo len tp code sk told = some (nI (fd ||| cms n rest shy B t p k H la), pic', night', w', last', a', as', fo', tp', sk') ∧ cwk p k H la pic' night' w' last' ∧ lw_C lines a' as' fo' := by
  intro t
  induction t with
  | zero =>
    intro fu fd p k H la pic night a tp w as fo last sk hfu ht hv hpH hk hw hC
    obtain ⟨f, rfl⟩ : ∃ f, fu = f + 1 := ⟨fu - 1, by omega⟩
    have h16 : 2 ^ n ≤ 2 ^ 4 := Nat.pow_le_pow_right (by decide) hn
    have hp := hv.2.2.1
    have hw' := hw
    obtain ⟨rfl, rfl, _, _⟩ := hw'
    refine ⟨nI p, nI k, last, a, w, as, fo, tp, sk, ?_, hw, hC⟩
    rw [f_Th_seekWished, f_Th_seekWished_body]
    simp (disch := omega) only [n_lt, n_le, n_eq, n_cl, n_sub, nI_add, pk_mul, n_subL, n_Lsub, n_neN, n_Nne, n_leN, n_ltN, n_Nlt, n_Nle, le_T, le_F, lt_T, lt_F, eq_T, eq_F, true_or, or_true, false_or, or_false, true_and, and_true, false_and, and_false, and_self, or_self, not_true_eq_false, not_false_eq_true, decide_eq_true_eq, decide_true, decide_false, Bool.false_eq_true, Bool.true_eq_false, eq_self, ↓reduceIte, Option.bind_some, mo_in, lit_0, lit_1, lit_2, lit_3, lit_4, lit_5, lit_6, lit_7, lit_8, lit_9, lit_10, lit_11, lit_12, lit_13, lit_14, lit_15, lit_16, lit_20, lit_22, lit_24, lit_28, lit_30, lit_31, lit_32, lit_39, lit_40, lit_42, lit_48, lit_50, lit_57, lit_60, lit_61, lit_62, lit_63, lit_64, lit_100, lit_120, lit_121, lit_122, lit_128, lit_130, lit_255, lit_256, lit_360, lit_1024, lit_2147483647, m1_pred, Nat.add_sub_cancel, lit_124, lit_38, lit_37, lit_33, lit_126, lit_59, lit_112, lit_108, lit_110, lit_104, lit_47, lit_43, lit_45, lit_41, lit_123, lit_49, lit_58, lit_68, q_shl, fa_or]
    rfl
  | succ t ih =>
    intro fu fd p k H la pic night a tp w as fo last sk hfu ht hv hpH hk hw hC
    obtain ⟨f, rfl⟩ : ∃ f, fu = f + 1 := ⟨fu - 1, by omega⟩
    have hp := hv.2.2.1
    have h1 := hv.1
    have hcan := th_can (t := t + 1) (fd := fd) h1 hn hp ht hw.2.2.1 hpH ho
    obtain ⟨R, b, hg, e1, hb⟩ := hcan
    have hpic := hw.1
    rw [← hpic] at e1
    cases b with
    | false =>
      have hsame : fd ||| cms n rest shy B (t + 1) p k H la = fd := or_same (fun q hq => by
        obtain ⟨r1, r2, r3, r4⟩ := cms_sub hn t p k H la R q hp hg hq
        rcases hb rfl with h | h
        · exact h q r2 r1 r3
        · omega)
      refine ⟨pic, night, last, a, w, as, fo, tp, sk, ?_, hw, hC⟩
      rw [hsame, f_Th_seekWished, f_Th_seekWished_body]
      simp (disch := omega) only [n_lt, n_le, n_eq, n_cl, n_sub, nI_add, pk_mul, n_subL, n_Lsub, n_neN, n_Nne, n_leN, n_ltN, n_Nlt, n_Nle, le_T, le_F, lt_T, lt_F, eq_T, eq_F, true_or, or_true, false_or, or_false, true_and, and_true, false_and, and_false, and_self, or_self, not_true_eq_false, not_false_eq_true, decide_eq_true_eq, decide_true, decide_false, Bool.false_eq_true, Bool.true_eq_false, eq_self, ↓reduceIte, Option.bind_some, mo_in, lit_0, lit_1, lit_2, lit_3, lit_4, lit_5, lit_6, lit_7, lit_8, lit_9, lit_10, lit_11, lit_12, lit_13, lit_14, lit_15, lit_16, lit_20, lit_22, lit_24, lit_28, lit_30, lit_31, lit_32, lit_39, lit_40, lit_42, lit_48, lit_50, lit_57, lit_60, lit_61, lit_62, lit_63, lit_64, lit_100, lit_120, lit_121, lit_122, lit_128, lit_130, lit_255, lit_256, lit_360, lit_1024, lit_2147483647, m1_pred, Nat.add_sub_cancel, lit_124, lit_38, lit_37, lit_33, lit_126, lit_59, lit_112, lit_108, lit_110, lit_104, lit_47, lit_43, lit_45, lit_41, lit_123, lit_49, lit_58, lit_68, e1]
    | true =>
      have loop : ∀ (e l fu : Nat) (pic night a tp : Int32) (w as fo : Nat → Int64) (last sk : Nat → Int32), l + e = n → e < fu → cwk p k H la pic night w last → lw_C lines a as fo → ∃ pic' night' last' a' w' as' fo' tp' sk', f_Th_seekWished_L34 (f_Th_seekWished f) fu (nI (t + 1)) (nI l) (nI o) (nI (fd ||| orr (fun l => if al n rest shy B p k H la l = true then cms n rest shy B t (p ^^^ 2 ^ l) (k + 1) (hs H (p ^^^ 2 ^ l)) (upd la l (nI (k + 1))) else 0) l)) (nI n) pic night w last rest shy a as fo len tp code sk told = some (nI (fd ||| cms n rest shy B (t + 1) p k H la), pic', night', w', last', a', as', fo', tp', sk') ∧ cwk p k H la pic' night' w' last' ∧ lw_C lines a' as' fo' := by
        intro e
        induction e with
        | zero =>
          intro l fu pic night a tp w as fo last sk hl hfu hw hC
          obtain ⟨g, rfl⟩ : ∃ g, fu = g + 1 := ⟨fu - 1, by omega⟩
          obtain rfl : l = n := by omega
          refine ⟨pic, night, last, a, w, as, fo, tp, sk, ?_, hw, hC⟩
          rw [f_Th_seekWished_L34]
          simp (disch := omega) only [n_lt, n_le, n_eq, n_cl, n_sub, nI_add, pk_mul, n_subL, n_Lsub, n_neN, n_Nne, n_leN, n_ltN, n_Nlt, n_Nle, le_T, le_F, lt_T, lt_F, eq_T, eq_F, true_or, or_true, false_or, or_false, true_and, and_true, false_and, and_false, and_self, or_self, not_true_eq_false, not_false_eq_true, decide_eq_true_eq, decide_true, decide_false, Bool.false_eq_true, Bool.true_eq_false, eq_self, ↓reduceIte, Option.bind_some, mo_in, lit_0, lit_1, lit_2, lit_3, lit_4, lit_5, lit_6, lit_7, lit_8, lit_9, lit_10, lit_11, lit_12, lit_13, lit_14, lit_15, lit_16, lit_20, lit_22, lit_24, lit_28, lit_30, lit_31, lit_32, lit_39, lit_40, lit_42, lit_48, lit_50, lit_57, lit_60, lit_61, lit_62, lit_63, lit_64, lit_100, lit_120, lit_121, lit_122, lit_128, lit_130, lit_255, lit_256, lit_360, lit_1024, lit_2147483647, m1_pred, Nat.add_sub_cancel, lit_124, lit_38, lit_37, lit_33, lit_126, lit_59, lit_112, lit_108, lit_110, lit_104, lit_47, lit_43, lit_45, lit_41, lit_123, lit_49, lit_58, lit_68]
          rfl
        | succ e ihe =>
          intro l fu pic night a tp w as fo last sk hl hfu hw hC
          obtain ⟨g, rfl⟩ : ∃ g, fu = g + 1 := ⟨fu - 1, by omega⟩
          obtain ⟨a1, as1, fo1, tp1, sk1, c1, hC1⟩ := ru_allow (l := l) hS hv (by omega) hw hB hC tp sk (rest := rest) (shy := shy)
          rw [f_Th_seekWished_L34]
          cases hal : al n rest shy B p k H la l with
          | false =>
            rw [hal] at c1
            obtain ⟨pic', night', last', a', w', as', fo', tp', sk', d1, d2, d3⟩ := ihe (l + 1) g pic night a1 tp1 w as1 fo1 last sk1 (by omega) (by omega) hw hC1
            refine ⟨pic', night', last', a', w', as', fo', tp', sk', ?_, d2, d3⟩
            rw [orr] at d1
            simp only [hal, Bool.false_eq_true, if_false, Nat.or_zero] at d1
            simp (disch := omega) only [n_lt, n_le, n_eq, n_cl, n_sub, nI_add, pk_mul, n_subL, n_Lsub, n_neN, n_Nne, n_leN, n_ltN, n_Nlt, n_Nle, le_T, le_F, lt_T, lt_F, eq_T, eq_F, true_or, or_true, false_or, or_false, true_and, and_true, false_and, and_false, and_self, or_self, not_true_eq_false, not_false_eq_true, decide_eq_true_eq, decide_true, decide_false, Bool.false_eq_true, Bool.true_eq_false, eq_self, ↓reduceIte, Option.bind_some, mo_in, lit_0, lit_1, lit_2, lit_3, lit_4, lit_5, lit_6, lit_7, lit_8, lit_9, lit_10, lit_11, lit_12, lit_13, lit_14, lit_15, lit_16, lit_20, lit_22, lit_24, lit_28, lit_30, lit_31, lit_32, lit_39, lit_40, lit_42, lit_48, lit_50, lit_57, lit_60, lit_61, lit_62, lit_63, lit_64, lit_100, lit_120, lit_121, lit_122, lit_128, lit_130, lit_255, lit_256, lit_360, lit_1024, lit_2147483647, m1_pred, Nat.add_sub_cancel, lit_124, lit_38, lit_37, lit_33, lit_126, lit_59, lit_112, lit_108, lit_110, lit_104, lit_47, lit_43, lit_45, lit_41, lit_123, lit_49, lit_58, lit_68, c1, f_Th_seekWished_L93]
            exact d1
          | true =>
            rw [hal] at c1
            obtain ⟨pic1, night1, last1, w1, s1, s2, s3⟩ := cl_go (l := l) hv (by omega) hw
            have hv1 := vd_step (l := l) hv (by omega) (by omega)
            obtain ⟨pic2, night2, last2, a2, w2, as2, fo2, tp2, sk2, r1, r2, r3⟩ := ih f (fd ||| orr (fun l => if al n rest shy B p k H la l = true then cms n rest shy B t (p ^^^ 2 ^ l) (k + 1) (hs H (p ^^^ 2 ^ l)) (upd la l (nI (k + 1))) else 0) l) (p ^^^ 2 ^ l) (k + 1) (hs H (p ^^^ 2 ^ l)) (upd la l (nI (k + 1))) pic1 night1 a1 tp1 w1 as1 fo1 last1 sk1 (by omega) (by omega) hv1 (by unfold hs; simp) (by omega) s3 hC1
            obtain ⟨pic3, night3, w3, last3, b1, b2⟩ := cl_back hv (by omega) (al_new hal) r2
            obtain ⟨pic', night', last', a', w', as', fo', tp', sk', d1, d2, d3⟩ := ihe (l + 1) g pic3 night3 a2 tp2 w3 as2 fo2 last3 sk2 (by omega) (by omega) b2 r3
            refine ⟨pic', night', last', a', w', as', fo', tp', sk', ?_, d2, d3⟩
            rw [orr] at d1
            simp only [hal, if_true] at d1
            rw [Nat.or_assoc] at r1
            simp (disch := omega) only [n_lt, n_le, n_eq, n_cl, n_sub, nI_add, pk_mul, n_subL, n_Lsub, n_neN, n_Nne, n_leN, n_ltN, n_Nlt, n_Nle, le_T, le_F, lt_T, lt_F, eq_T, eq_F, true_or, or_true, false_or, or_false, true_and, and_true, false_and, and_false, and_self, or_self, not_true_eq_false, not_false_eq_true, decide_eq_true_eq, decide_true, decide_false, Bool.false_eq_true, Bool.true_eq_false, eq_self, ↓reduceIte, Option.bind_some, mo_in, lit_0, lit_1, lit_2, lit_3, lit_4, lit_5, lit_6, lit_7, lit_8, lit_9, lit_10, lit_11, lit_12, lit_13, lit_14, lit_15, lit_16, lit_20, lit_22, lit_24, lit_28, lit_30, lit_31, lit_32, lit_39, lit_40, lit_42, lit_48, lit_50, lit_57, lit_60, lit_61, lit_62, lit_63, lit_64, lit_100, lit_120, lit_121, lit_122, lit_128, lit_130, lit_255, lit_256, lit_360, lit_1024, lit_2147483647, m1_pred, Nat.add_sub_cancel, lit_124, lit_38, lit_37, lit_33, lit_126, lit_59, lit_112, lit_108, lit_110, lit_104, lit_47, lit_43, lit_45, lit_41, lit_123, lit_49, lit_58, lit_68, c1, s1, s2, r1, b1, f_Th_seekWished_L93]
            exact d1
      obtain ⟨pic', night', last', a', w', as', fo', tp', sk', d1, d2, d3⟩ := loop n 0 3000 pic night a tp w as fo last sk (by omega) (by omega) hw hC
      refine ⟨pic', night', last', a', w', as', fo', tp', sk', ?_, d2, d3⟩
      rw [orr, Nat.or_zero] at d1
      rw [f_Th_seekWished, f_Th_seekWished_body]
      simp (disch := omega) only [n_lt, n_le, n_eq, n_cl, n_sub, nI_add, pk_mul, n_subL, n_Lsub, n_neN, n_Nne, n_leN, n_ltN, n_Nlt, n_Nle, le_T, le_F, lt_T, lt_F, eq_T, eq_F, true_or, or_true, false_or, or_false, true_and, and_true, false_and, and_false, and_self, or_self, not_true_eq_false, not_false_eq_true, decide_eq_true_eq, decide_true, decide_false, Bool.false_eq_true, Bool.true_eq_false, eq_self, ↓reduceIte, Option.bind_some, mo_in, lit_0, lit_1, lit_2, lit_3, lit_4, lit_5, lit_6, lit_7, lit_8, lit_9, lit_10, lit_11, lit_12, lit_13, lit_14, lit_15, lit_16, lit_20, lit_22, lit_24, lit_28, lit_30, lit_31, lit_32, lit_39, lit_40, lit_42, lit_48, lit_50, lit_57, lit_60, lit_61, lit_62, lit_63, lit_64, lit_100, lit_120, lit_121, lit_122, lit_128, lit_130, lit_255, lit_256, lit_360, lit_1024, lit_2147483647, m1_pred, Nat.add_sub_cancel, lit_124, lit_38, lit_37, lit_33, lit_126, lit_59, lit_112, lit_108, lit_110, lit_104, lit_47, lit_43, lit_45, lit_41, lit_123, lit_49, lit_58, lit_68, e1]
      exact d1
theorem mo_wished {n : Nat} {B : Nat → Bool} {rest shy : Int32} {barred : Nat → Int32} (hB : ∀ q, q < 2 ^ n → barred q = b2i (B q)) (hn : n ≤ 4) : ∀ (t fu p k : Nat) (H : Nat → Bool) (la : Nat → Int32) (at_ night : Int32) (mhad mlast : Nat → Int32), t < fu → t < 100 → vd n p k la → k + t < 1000 → mwk p k H la at_ night mhad mlast → ∃ at' night' mhad' mlast', f_Mo_comesTo fu (nI t) (nI n) at_ night rest shy mhad barred mlast = some (nI (cms n rest shy B t p k H la), at', night', mhad', mlast') ∧ mwk p k H la at' night' mhad' mlast' := by
  intro t
  induction t with
  | zero =>
    intro fu p k H la at_ night mhad mlast hfu ht hv hk hw
    obtain ⟨f, rfl⟩ : ∃ f, fu = f + 1 := ⟨fu - 1, by omega⟩
    have h16 : 2 ^ n ≤ 2 ^ 4 := Nat.pow_le_pow_right (by decide) hn
    have hp := hv.2.2.1
    have hw' := hw
    obtain ⟨rfl, rfl, hH, hL⟩ := hw'
    refine ⟨nI p, nI k, mhad, mlast, ?_, hw⟩
    rw [f_Mo_comesTo, f_Mo_comesTo_body, cms]
    simp (disch := omega) only [n_lt, n_le, n_eq, n_cl, n_sub, nI_add, pk_mul, n_subL, n_Lsub, n_neN, n_Nne, n_leN, n_ltN, n_Nlt, n_Nle, le_T, le_F, lt_T, lt_F, eq_T, eq_F, true_or, or_true, false_or, or_false, true_and, and_true, false_and, and_false, and_self, or_self, not_true_eq_false, not_false_eq_true, decide_eq_true_eq, decide_true, decide_false, Bool.false_eq_true, Bool.true_eq_false, eq_self, ↓reduceIte, Option.bind_some, mo_in, lit_0, lit_1, lit_2, lit_3, lit_4, lit_5, lit_6, lit_7, lit_8, lit_9, lit_10, lit_11, lit_12, lit_13, lit_14, lit_15, lit_16, lit_20, lit_22, lit_24, lit_28, lit_30, lit_31, lit_32, lit_39, lit_40, lit_42, lit_48, lit_50, lit_57, lit_60, lit_61, lit_62, lit_63, lit_64, lit_100, lit_120, lit_121, lit_122, lit_128, lit_130, lit_255, lit_256, lit_360, lit_1024, lit_2147483647, m1_pred, Nat.add_sub_cancel, lit_124, lit_38, lit_37, lit_33, lit_126, lit_59, lit_112, lit_108, lit_110, lit_104, lit_47, lit_43, lit_45, lit_41, lit_123, lit_49, lit_58, lit_68, q_shl]
  | succ t ih =>
    intro fu p k H la at_ night mhad mlast hfu ht hv hk hw
    obtain ⟨f, rfl⟩ : ∃ f, fu = f + 1 := ⟨fu - 1, by omega⟩
    have h10 := hv.2.1
    have loop : ∀ (e l fu : Nat) (at_ night : Int32) (mhad mlast : Nat → Int32), l + e = n → e < fu → mwk p k H la at_ night mhad mlast → ∃ at' night' mhad' mlast', f_Mo_comesTo_L15 (f_Mo_comesTo f) fu (nI (t + 1)) (nI (orr (fun l => if al n rest shy B p k H la l = true then cms n rest shy B t (p ^^^ 2 ^ l) (k + 1) (hs H (p ^^^ 2 ^ l)) (upd la l (nI (k + 1))) else 0) l)) (nI l) (nI n) at_ night rest shy mhad barred mlast = some (nI (cms n rest shy B (t + 1) p k H la), at', night', mhad', mlast') ∧ mwk p k H la at' night' mhad' mlast' := by
      intro e
      induction e with
      | zero =>
        intro l fu at_ night mhad mlast hl hfu hw
        obtain ⟨g, rfl⟩ : ∃ g, fu = g + 1 := ⟨fu - 1, by omega⟩
        obtain rfl : l = n := by omega
        refine ⟨at_, night, mhad, mlast, ?_, hw⟩
        rw [f_Mo_comesTo_L15]
        simp (disch := omega) only [n_lt, n_le, n_eq, n_cl, n_sub, nI_add, pk_mul, n_subL, n_Lsub, n_neN, n_Nne, n_leN, n_ltN, n_Nlt, n_Nle, le_T, le_F, lt_T, lt_F, eq_T, eq_F, true_or, or_true, false_or, or_false, true_and, and_true, false_and, and_false, and_self, or_self, not_true_eq_false, not_false_eq_true, decide_eq_true_eq, decide_true, decide_false, Bool.false_eq_true, Bool.true_eq_false, eq_self, ↓reduceIte, Option.bind_some, mo_in, lit_0, lit_1, lit_2, lit_3, lit_4, lit_5, lit_6, lit_7, lit_8, lit_9, lit_10, lit_11, lit_12, lit_13, lit_14, lit_15, lit_16, lit_20, lit_22, lit_24, lit_28, lit_30, lit_31, lit_32, lit_39, lit_40, lit_42, lit_48, lit_50, lit_57, lit_60, lit_61, lit_62, lit_63, lit_64, lit_100, lit_120, lit_121, lit_122, lit_128, lit_130, lit_255, lit_256, lit_360, lit_1024, lit_2147483647, m1_pred, Nat.add_sub_cancel, lit_124, lit_38, lit_37, lit_33, lit_126, lit_59, lit_112, lit_108, lit_110, lit_104, lit_47, lit_43, lit_45, lit_41, lit_123, lit_49, lit_58, lit_68]
        rfl
      | succ e ihe =>
        intro l fu at_ night mhad mlast hl hfu hw
        obtain ⟨g, rfl⟩ : ∃ g, fu = g + 1 := ⟨fu - 1, by omega⟩
        have c1 := mo_may (l := l) hv (by omega) hw hB (rest := rest) (shy := shy)
        rw [f_Mo_comesTo_L15]
        cases hal : al n rest shy B p k H la l with
        | false =>
          rw [hal] at c1
          obtain ⟨at', night', mhad', mlast', d1, d2⟩ := ihe (l + 1) g at_ night mhad mlast (by omega) (by omega) hw
          refine ⟨at', night', mhad', mlast', ?_, d2⟩
          rw [orr] at d1
          simp only [hal, Bool.false_eq_true, if_false, Nat.or_zero] at d1
          simp (disch := omega) only [n_lt, n_le, n_eq, n_cl, n_sub, nI_add, pk_mul, n_subL, n_Lsub, n_neN, n_Nne, n_leN, n_ltN, n_Nlt, n_Nle, le_T, le_F, lt_T, lt_F, eq_T, eq_F, true_or, or_true, false_or, or_false, true_and, and_true, false_and, and_false, and_self, or_self, not_true_eq_false, not_false_eq_true, decide_eq_true_eq, decide_true, decide_false, Bool.false_eq_true, Bool.true_eq_false, eq_self, ↓reduceIte, Option.bind_some, mo_in, lit_0, lit_1, lit_2, lit_3, lit_4, lit_5, lit_6, lit_7, lit_8, lit_9, lit_10, lit_11, lit_12, lit_13, lit_14, lit_15, lit_16, lit_20, lit_22, lit_24, lit_28, lit_30, lit_31, lit_32, lit_39, lit_40, lit_42, lit_48, lit_50, lit_57, lit_60, lit_61, lit_62, lit_63, lit_64, lit_100, lit_120, lit_121, lit_122, lit_128, lit_130, lit_255, lit_256, lit_360, lit_1024, lit_2147483647, m1_pred, Nat.add_sub_cancel, lit_124, lit_38, lit_37, lit_33, lit_126, lit_59, lit_112, lit_108, lit_110, lit_104, lit_47, lit_43, lit_45, lit_41, lit_123, lit_49, lit_58, lit_68, c1, f_Mo_comesTo_L58]
          exact d1
        | true =>
          rw [hal] at c1
          obtain ⟨at1, night1, mlast1, mhad1, s1, s3⟩ := mo_go (l := l) hv (by omega) hw
          have hv1 := vd_step (l := l) hv (by omega) (by omega)
          obtain ⟨at2, night2, mhad2, mlast2, r1, r2⟩ := ih f (p ^^^ 2 ^ l) (k + 1) (hs H (p ^^^ 2 ^ l)) (upd la l (nI (k + 1))) at1 night1 mhad1 mlast1 (by omega) (by omega) hv1 (by omega) s3
          obtain ⟨at3, night3, mlast3, mhad3, b1, b2⟩ := mo_back hv (by omega) (al_new hal) r2
          obtain ⟨at', night', mhad', mlast', d1, d2⟩ := ihe (l + 1) g at3 night3 mhad3 mlast3 (by omega) (by omega) b2
          refine ⟨at', night', mhad', mlast', ?_, d2⟩
          rw [orr] at d1
          simp only [hal, if_true] at d1
          simp (disch := omega) only [n_lt, n_le, n_eq, n_cl, n_sub, nI_add, pk_mul, n_subL, n_Lsub, n_neN, n_Nne, n_leN, n_ltN, n_Nlt, n_Nle, le_T, le_F, lt_T, lt_F, eq_T, eq_F, true_or, or_true, false_or, or_false, true_and, and_true, false_and, and_false, and_self, or_self, not_true_eq_false, not_false_eq_true, decide_eq_true_eq, decide_true, decide_false, Bool.false_eq_true, Bool.true_eq_false, eq_self, ↓reduceIte, Option.bind_some, mo_in, lit_0, lit_1, lit_2, lit_3, lit_4, lit_5, lit_6, lit_7, lit_8, lit_9, lit_10, lit_11, lit_12, lit_13, lit_14, lit_15, lit_16, lit_20, lit_22, lit_24, lit_28, lit_30, lit_31, lit_32, lit_39, lit_40, lit_42, lit_48, lit_50, lit_57, lit_60, lit_61, lit_62, lit_63, lit_64, lit_100, lit_120, lit_121, lit_122, lit_128, lit_130, lit_255, lit_256, lit_360, lit_1024, lit_2147483647, m1_pred, Nat.add_sub_cancel, lit_124, lit_38, lit_37, lit_33, lit_126, lit_59, lit_112, lit_108, lit_110, lit_104, lit_47, lit_43, lit_45, lit_41, lit_123, lit_49, lit_58, lit_68, c1, s1, r1, b1, fa_or, f_Mo_comesTo_L58]
          exact d1
    obtain ⟨at', night', mhad', mlast', d1, d2⟩ := loop n 0 3000 at_ night mhad mlast (by omega) (by omega) hw
    refine ⟨at', night', mhad', mlast', ?_, d2⟩
    rw [f_Mo_comesTo, f_Mo_comesTo_body]
    simp (disch := omega) only [n_lt, n_le, n_eq, n_cl, n_sub, nI_add, pk_mul, n_subL, n_Lsub, n_neN, n_Nne, n_leN, n_ltN, n_Nlt, n_Nle, le_T, le_F, lt_T, lt_F, eq_T, eq_F, true_or, or_true, false_or, or_false, true_and, and_true, false_and, and_false, and_self, or_self, not_true_eq_false, not_false_eq_true, decide_eq_true_eq, decide_true, decide_false, Bool.false_eq_true, Bool.true_eq_false, eq_self, ↓reduceIte, Option.bind_some, mo_in, lit_0, lit_1, lit_2, lit_3, lit_4, lit_5, lit_6, lit_7, lit_8, lit_9, lit_10, lit_11, lit_12, lit_13, lit_14, lit_15, lit_16, lit_20, lit_22, lit_24, lit_28, lit_30, lit_31, lit_32, lit_39, lit_40, lit_42, lit_48, lit_50, lit_57, lit_60, lit_61, lit_62, lit_63, lit_64, lit_100, lit_120, lit_121, lit_122, lit_128, lit_130, lit_255, lit_256, lit_360, lit_1024, lit_2147483647, m1_pred, Nat.add_sub_cancel, lit_124, lit_38, lit_37, lit_33, lit_126, lit_59, lit_112, lit_108, lit_110, lit_104, lit_47, lit_43, lit_45, lit_41, lit_123, lit_49, lit_58, lit_68]
    exact d1
theorem ok_wished {t : Nat} {x_L_wall_lamps : Int32} {x_L_wall_picture : Int32} {x_L_wall_night : Int32} {x_L_wall_spent : Int32} {x_L_wall_had_words : Nat → Int64} {x_L_wall_told_words : Nat → Int64} {x_L_wall_last : Nat → Int32} {x_L_wall_often : Nat → Int32} {x_M_lamps : Int32} {x_M_at : Int32} {x_M_night : Int32} {x_M_spent : Int32} {x_M_had : Nat → Int32} {x_M_told : Nat → Int32} {x_M_last : Nat → Int32} {x_M_often : Nat → Int32} {x_M_hasBegun : Bool} {x_L_rules_rest : Int32} {x_L_rules_shy : Int32} {x_M_rest : Int32} {x_M_shy : Int32} {x_L_rules_askedForLamps : Int32} {x_L_rules_asked_words : Nat → Int64} {x_L_rules_forbidden_words : Nat → Int64} {x_L_rules_law_code : Nat → Int32} {x_L_rules_law_length : Int32} {x_M_hasLaw : Bool} {x_M_act : Nat → Int32} {x_M_with : Nat → Int32} {x_M_lineMany : Nat → Int32} {x_M_testEnd : Nat → Int32} {x_M_lineEnd : Nat → Int32} {x_L_thought_open : Int32} {x_L_thought_found : Int32} {x_L_thought_wall_lamps : Int32} {x_L_thought_wall_picture : Int32} {x_L_thought_wall_night : Int32} {x_L_thought_wall_spent : Int32} {x_L_thought_wall_had_words : Nat → Int64} {x_L_thought_wall_told_words : Nat → Int64} {x_L_thought_wall_last : Nat → Int32} {x_L_thought_wall_often : Nat → Int32} {x_L_rules_law_top : Int32} {x_L_rules_law_stack : Nat → Int32} {x_M_facts : Nat → Int32} {x_M_pile : Nat → Int32} {x_M_barred : Nat → Int32} (ht : t < 64) (p1 : Int32) (hW : R_wall t x_L_wall_lamps x_L_wall_picture x_L_wall_night x_L_wall_spent x_L_wall_had_words x_L_wall_told_words x_L_wall_last x_L_wall_often x_M_lamps x_M_at x_M_night x_M_spent x_M_had x_M_told x_M_last x_M_often x_M_hasBegun) (hU : R_set x_L_rules_rest x_L_rules_shy x_M_rest x_M_shy) (hG : R_lw x_L_rules_askedForLamps x_L_rules_asked_words x_L_rules_forbidden_words x_L_rules_law_code x_L_rules_law_length x_M_hasLaw x_M_act x_M_with x_M_lineMany x_M_testEnd x_M_lineEnd) : ∃ (r : Int32) (u_L_thought_open : Int32) (u_L_thought_found : Int32) (u_L_thought_wall_lamps : Int32) (u_L_thought_wall_picture : Int32) (u_L_thought_wall_night : Int32) (u_L_thought_wall_spent : Int32) (u_L_thought_wall_had_words : Nat → Int64) (u_L_thought_wall_told_words : Nat → Int64) (u_L_thought_wall_last : Nat → Int32) (u_L_thought_wall_often : Nat → Int32) (u_L_rules_askedForLamps : Int32) (u_L_rules_asked_words : Nat → Int64) (u_L_rules_forbidden_words : Nat → Int64) (u_L_rules_law_top : Int32) (u_L_rules_law_stack : Nat → Int32) (u_M_at : Int32) (u_M_night : Int32) (u_M_spent : Int32) (u_M_hasBegun : Bool) (u_M_had : Nat → Int32) (u_M_last : Nat → Int32) (u_M_often : Nat → Int32) (u_M_facts : Nat → Int32) (u_M_pile : Nat → Int32) (u_M_barred : Nat → Int32), f_OL_wished p1 x_L_wall_lamps x_L_wall_picture x_L_wall_night x_L_wall_spent x_L_thought_open x_L_thought_found x_L_thought_wall_lamps x_L_thought_wall_picture x_L_thought_wall_night x_L_thought_wall_spent x_L_thought_wall_had_words x_L_wall_had_words x_L_thought_wall_told_words x_L_wall_told_words x_L_wall_last x_L_thought_wall_last x_L_wall_often x_L_thought_wall_often x_L_rules_rest x_L_rules_shy x_L_rules_askedForLamps x_L_rules_asked_words x_L_rules_forbidden_words x_L_rules_law_length x_L_rules_law_top x_L_rules_law_code x_L_rules_law_stack = some (r, u_L_thought_open, u_L_thought_found, u_L_thought_wall_lamps, u_L_thought_wall_picture, u_L_thought_wall_night, u_L_thought_wall_spent, u_L_thought_wall_had_words, u_L_thought_wall_told_words, u_L_thought_wall_last, u_L_thought_wall_often, u_L_rules_askedForLamps, u_L_rules_asked_words, u_L_rules_forbidden_words, u_L_rules_law_top, u_L_rules_law_stack) ∧ f_Mo_wished p1 x_M_lamps x_M_at x_M_night x_M_spent x_M_rest x_M_shy x_M_hasBegun x_M_hasLaw x_M_had x_M_last x_M_often x_M_told x_M_facts x_M_lineMany x_M_testEnd x_M_act x_M_pile x_M_with x_M_lineEnd x_M_barred = some (r, u_M_at, u_M_night, u_M_spent, u_M_hasBegun, u_M_had, u_M_last, u_M_often, u_M_facts, u_M_pile, u_M_barred) ∧ R_wall t x_L_wall_lamps x_L_wall_picture x_L_wall_night x_L_wall_spent x_L_wall_had_words x_L_wall_told_words x_L_wall_last x_L_wall_often x_M_lamps u_M_at u_M_night u_M_spent u_M_had x_M_told u_M_last u_M_often u_M_hasBegun ∧ R_lw u_L_rules_askedForLamps u_L_rules_asked_words u_L_rules_forbidden_words x_L_rules_law_code x_L_rules_law_length x_M_hasLaw x_M_act x_M_with x_M_lineMany x_M_testEnd x_M_lineEnd ∧ (x_M_hasBegun = true → u_M_hasBegun = true) := by
  obtain ⟨mh, ml, mo, e0, hR⟩ := wall_ready hW
  obtain ⟨n, p, k, hk, rfl, rfl, hv, hc, hm, hT, hb1, hb2, _, _, _⟩ := wall_open ht hR
  have h10 := hv.2.1
  have hGx := hG
  obtain ⟨rfl, rfl⟩ := hU
  obtain ⟨lines, hS, hC⟩ := R_lw_of.mp hG
  rcases n_cases p1 with a | ⟨w, hw, rfl⟩
  · simp (disch := omega) only [n_lt, n_le, n_eq, n_cl, n_sub, nI_add, pk_mul, n_subL, n_Lsub, n_neN, n_Nne, n_leN, n_ltN, n_Nlt, n_Nle, le_T, le_F, lt_T, lt_F, eq_T, eq_F, true_or, or_true, false_or, or_false, true_and, and_true, false_and, and_false, and_self, or_self, not_true_eq_false, not_false_eq_true, decide_eq_true_eq, decide_true, decide_false, Bool.false_eq_true, Bool.true_eq_false, eq_self, ↓reduceIte, Option.bind_some, mo_in, lit_0, lit_1, lit_2, lit_3, lit_4, lit_5, lit_6, lit_7, lit_8, lit_9, lit_10, lit_11, lit_12, lit_13, lit_14, lit_15, lit_16, lit_20, lit_22, lit_24, lit_28, lit_30, lit_31, lit_32, lit_39, lit_40, lit_42, lit_48, lit_50, lit_57, lit_60, lit_61, lit_62, lit_63, lit_64, lit_100, lit_120, lit_121, lit_122, lit_128, lit_130, lit_255, lit_256, lit_360, lit_1024, lit_2147483647, f_OL_wished, f_Mo_wished, e0, m_lt a, m_le a, m_gt a, m_ge a, m_eq a]
    exact ⟨_, _, _, _, _, _, _, _, _, _, _, _, _, _, _, _, _, _, _, _, _, _, _, _, _, _, rfl, rfl, hR, hGx, fun _ => rfl⟩
  by_cases hw1 : w ≤ 15
  rotate_left
  · simp (disch := omega) only [n_lt, n_le, n_eq, n_cl, n_sub, nI_add, pk_mul, n_subL, n_Lsub, n_neN, n_Nne, n_leN, n_ltN, n_Nlt, n_Nle, le_T, le_F, lt_T, lt_F, eq_T, eq_F, true_or, or_true, false_or, or_false, true_and, and_true, false_and, and_false, and_self, or_self, not_true_eq_false, not_false_eq_true, decide_eq_true_eq, decide_true, decide_false, Bool.false_eq_true, Bool.true_eq_false, eq_self, ↓reduceIte, Option.bind_some, mo_in, lit_0, lit_1, lit_2, lit_3, lit_4, lit_5, lit_6, lit_7, lit_8, lit_9, lit_10, lit_11, lit_12, lit_13, lit_14, lit_15, lit_16, lit_20, lit_22, lit_24, lit_28, lit_30, lit_31, lit_32, lit_39, lit_40, lit_42, lit_48, lit_50, lit_57, lit_60, lit_61, lit_62, lit_63, lit_64, lit_100, lit_120, lit_121, lit_122, lit_128, lit_130, lit_255, lit_256, lit_360, lit_1024, lit_2147483647, f_OL_wished, f_Mo_wished, e0]
    exact ⟨_, _, _, _, _, _, _, _, _, _, _, _, _, _, _, _, _, _, _, _, _, _, _, _, _, _, rfl, rfl, hR, hGx, fun _ => rfl⟩
  by_cases hn4 : n ≤ 4
  rotate_left
  · simp (disch := omega) only [n_lt, n_le, n_eq, n_cl, n_sub, nI_add, pk_mul, n_subL, n_Lsub, n_neN, n_Nne, n_leN, n_ltN, n_Nlt, n_Nle, le_T, le_F, lt_T, lt_F, eq_T, eq_F, true_or, or_true, false_or, or_false, true_and, and_true, false_and, and_false, and_self, or_self, not_true_eq_false, not_false_eq_true, decide_eq_true_eq, decide_true, decide_false, Bool.false_eq_true, Bool.true_eq_false, eq_self, ↓reduceIte, Option.bind_some, mo_in, lit_0, lit_1, lit_2, lit_3, lit_4, lit_5, lit_6, lit_7, lit_8, lit_9, lit_10, lit_11, lit_12, lit_13, lit_14, lit_15, lit_16, lit_20, lit_22, lit_24, lit_28, lit_30, lit_31, lit_32, lit_39, lit_40, lit_42, lit_48, lit_50, lit_57, lit_60, lit_61, lit_62, lit_63, lit_64, lit_100, lit_120, lit_121, lit_122, lit_128, lit_130, lit_255, lit_256, lit_360, lit_1024, lit_2147483647, f_OL_wished, f_Mo_wished, e0]
    exact ⟨_, _, _, _, _, _, _, _, _, _, _, _, _, _, _, _, _, _, _, _, _, _, _, _, _, _, rfl, rfl, hR, hGx, fun _ => rfl⟩
  obtain ⟨fa, pi, ba, e1, hB⟩ := mo_find hS h10 hT x_M_facts x_M_pile x_M_barred
  obtain ⟨o, wv, t', la, of, a1, as1, fo1, tp1, sk1, e2, hc2, ht2, hC1, ho⟩ := th_begin (op := x_L_thought_open) (s0 := x_L_wall_spent) (l1 := x_L_thought_wall_lamps) (p1 := x_L_thought_wall_picture) (n1 := x_L_thought_wall_night) (s1 := x_L_thought_wall_spent) (h1 := x_L_thought_wall_had_words) (t1 := x_L_thought_wall_told_words) (told := x_L_wall_told_words) (often := x_L_wall_often) (la1 := x_L_thought_wall_last) (of1 := x_L_thought_wall_often) (tp := x_L_rules_law_top) (sk := x_L_rules_law_stack) hS hn4 hc hC
  obtain ⟨pic', night', last', a', w', as', fo', tp', sk', e3, _, hC'⟩ := cl_wished (B := fun q => bitw x_L_wall_told_words q || decide (lw_lines (lw_env n q) lines ≠ 0)) (rest := x_M_rest) (shy := x_M_shy) (told := t') hS hn4 ht2 ho w 20 0 p k (bitw x_L_wall_had_words) x_L_wall_last x_L_wall_picture x_L_wall_night a1 tp1 wv as1 fo1 la sk1 (by omega) (by omega) hv hb1 (by omega) hc2 hC1
  obtain ⟨at', night2, mhad', mlast', e4, hm'⟩ := mo_wished (B := fun q => bitw x_L_wall_told_words q || decide (lw_lines (lw_env n q) lines ≠ 0)) (rest := x_M_rest) (shy := x_M_shy) hB hn4 w 20 p k (bitw x_L_wall_had_words) x_L_wall_last x_M_at x_M_night mh ml (by omega) (by omega) hv (by omega) hm
  rw [Nat.zero_or] at e3
  simp (disch := omega) only [n_lt, n_le, n_eq, n_cl, n_sub, nI_add, pk_mul, n_subL, n_Lsub, n_neN, n_Nne, n_leN, n_ltN, n_Nlt, n_Nle, le_T, le_F, lt_T, lt_F, eq_T, eq_F, true_or, or_true, false_or, or_false, true_and, and_true, false_and, and_false, and_self, or_self, not_true_eq_false, not_false_eq_true, decide_eq_true_eq, decide_true, decide_false, Bool.false_eq_true, Bool.true_eq_false, eq_self, ↓reduceIte, Option.bind_some, mo_in, lit_0, lit_1, lit_2, lit_3, lit_4, lit_5, lit_6, lit_7, lit_8, lit_9, lit_10, lit_11, lit_12, lit_13, lit_14, lit_15, lit_16, lit_20, lit_22, lit_24, lit_28, lit_30, lit_31, lit_32, lit_39, lit_40, lit_42, lit_48, lit_50, lit_57, lit_60, lit_61, lit_62, lit_63, lit_64, lit_100, lit_120, lit_121, lit_122, lit_128, lit_130, lit_255, lit_256, lit_360, lit_1024, lit_2147483647, f_OL_wished, f_Th_wishedFrom, f_Mo_wished, e0, e1, e2, e3, e4]
  exact ⟨_, _, _, _, _, _, _, _, _, _, _, _, _, _, _, _, _, _, _, _, _, _, _, _, _, _, rfl, rfl, wall_same hR hc hm', R_lw_of.mpr ⟨lines, hS, hC'⟩, fun _ => rfl⟩
