/-! PURE: the least, both sides -/
theorem sm_sh : ∀ m, m < 31 → ((nI m &&& nI 31).toBitVec.smod 32).toNat = m := by decide +kernel
theorem n_shl {a m : Nat} (hm : m < 31) (h : a * 2 ^ m < 4294967296) : nI a <<< (nI m &&& nI 31) = nI (a * 2 ^ m) := pk_shlN _ m (sm_sh m hm) h
theorem le_full {c : Nat → Nat} {n : Nat} (hc : ∀ j, j < n → c j ≤ 9) {v : Nat} (hv : 10 ≤ v) : le_C c n v = n := fb_ct_all.mpr (fun k hk => by have := hc k hk; simp; omega)
theorem le_zero (c : Nat → Nat) (n : Nat) : le_C c n 0 = 0 := fb_ct_zero.mpr (fun k _ => by simp)
theorem le_E (c : Nat → Nat) (v : Nat) : ∀ k, le_C c k (v + 1) = le_C c k v + fb_ct (fun i => decide (c i = v)) k
  | 0 => rfl
  | k + 1 => by
    rw [le_C_succ, le_C_succ, fb_ct_succ, le_E c v k]
    by_cases h : c k = v
    · rw [if_pos (by omega), if_neg (by omega), if_pos (by simp [h])]; omega
    · by_cases h2 : c k < v
      · rw [if_pos (by omega), if_pos h2, if_neg (by simp [h])]; omega
      · rw [if_neg (by omega), if_neg h2, if_neg (by simp [h])]; omega
theorem le_I_at {c s : Nat → Nat} {n m v : Nat} (h : le_I c n s) (hm : m < n) (h1 : le_C c n v ≤ m) (h2 : m < le_C c n (v + 1)) : s m = v := by
  obtain ⟨a, b⟩ := h m hm
  rcases Nat.lt_trichotomy (s m) v with e | e | e
  · have := le_C_mono c n (show s m + 1 ≤ v by omega); omega
  · exact e
  · have := le_C_mono c n (show v + 1 ≤ s m by omega); omega
theorem le_I_9 {c s : Nat → Nat} {n : Nat} (hc : ∀ j, j < n → c j ≤ 9) (h : le_I c n s) {j : Nat} (hj : j < n) : s j ≤ 9 := by
  by_cases e : s j ≤ 9
  · exact e
  · have := (h j hj).1
    rw [le_full hc (by omega)] at this
    omega
theorem co_L22 {c s : Nat → Nat} {k : Nat} {pr : Nat → Int32} (v1 : Int32) (hk : k < 10) (hp : ∀ j, j < 10 → pr j = nI (c j)) (hc : ∀ j, j < 10 → c j ≤ 9) (hs : le_I c k s) (k15 : Int32 → Int32 → (Nat → Int32) → (Nat → Int32) → Option (Int32 × (Nat → Int32))) : ∀ (q fu : Nat) (f : Nat → Int32), q ≤ k → q < fu → (∀ j, j < q → f j = nI (s j)) → (∀ j, q < j → j ≤ k → f j = nI (s (j - 1))) → (∀ j, q ≤ j → j < k → c k < s j) → ∃ f' s', f_Co_leastFor_L22 k15 fu v1 (nI k) (nI q) f pr = k15 v1 (nI (k + 1)) f' pr ∧ le_I c (k + 1) s' ∧ ∀ j, j < k + 1 → f' j = nI (s' j) := by
  have fin : ∀ (q : Nat) (f : Nat → Int32), q ≤ k → (∀ j, j < q → f j = nI (s j)) → (∀ j, q < j → j ≤ k → f j = nI (s (j - 1))) → (∀ j, q ≤ j → j < k → c k < s j) → (∀ j, j < q → s j ≤ c k) → le_I c (k + 1) (fun j => if j < q then s j else if j = q then c k else s (j - 1)) ∧ ∀ j, j < k + 1 → upd f q (nI (c k)) j = nI (if j < q then s j else if j = q then c k else s (j - 1)) := by
    intro q f hq h1 h2 h3 h4
    refine ⟨le_I_put (q := q) hs hq h4 h3 (fun j hj => if_pos hj) ?_ (fun j hj hj2 => ?_), fun j hj => ?_⟩
    · show (if q < q then s q else if q = q then c k else s (q - 1)) = c k
      rw [if_neg (by omega), if_pos rfl]
    · show (if j < q then s j else if j = q then c k else s (j - 1)) = s (j - 1)
      rw [if_neg (by omega), if_neg (by omega)]
    · rcases Nat.lt_trichotomy j q with a | a | a
      · rw [pk_un (by omega), if_pos a, h1 j a]
      · subst a; rw [pk_us, if_neg (by omega), if_pos rfl]
      · rw [pk_un (by omega), if_neg (by omega), if_neg (by omega), h2 j a (by omega)]
  have hck := hp k hk
  intro q
  induction q with
  | zero =>
    intro fu f hq hfu h1 h2 h3
    obtain ⟨n, rfl⟩ : ∃ n, fu = n + 1 := ⟨fu - 1, by omega⟩
    obtain ⟨g1, g2⟩ := fin 0 f hq h1 h2 h3 (fun j hj => absurd hj (by omega))
    refine ⟨_, _, ?_, g1, g2⟩
    rw [f_Co_leastFor_L22]
    simp (disch := omega) only [n_lt, n_le, n_eq, n_cl, n_sub, nI_add, pk_mul, n_subL, n_Lsub, n_neN, n_Nne, n_leN, n_ltN, n_Nlt, n_Nle, le_T, le_F, lt_T, lt_F, eq_T, eq_F, true_or, or_true, false_or, or_false, true_and, and_true, false_and, and_false, and_self, or_self, not_true_eq_false, not_false_eq_true, decide_eq_true_eq, decide_true, decide_false, Bool.false_eq_true, Bool.true_eq_false, eq_self, ↓reduceIte, Option.bind_some, mo_in, lit_0, lit_1, lit_2, lit_3, lit_4, lit_5, lit_6, lit_7, lit_8, lit_9, lit_10, lit_11, lit_12, lit_13, lit_14, lit_15, lit_16, lit_20, lit_22, lit_24, lit_28, lit_30, lit_31, lit_32, lit_39, lit_40, lit_42, lit_48, lit_50, lit_57, lit_60, lit_61, lit_62, lit_63, lit_64, lit_100, lit_120, lit_121, lit_122, lit_128, lit_130, lit_255, lit_256, lit_360, lit_1024, lit_2147483647, f_Co_leastFor_L63, hck]
  | succ q ih =>
    intro fu f hq hfu h1 h2 h3
    obtain ⟨n, rfl⟩ : ∃ n, fu = n + 1 := ⟨fu - 1, by omega⟩
    have e1 := h1 q (by omega)
    have e2 := hc k hk
    have e3 : s q ≤ 9 := le_I_9 (fun j hj => hc j (by omega)) hs (by omega)
    by_cases hle : s q ≤ c k
    · obtain ⟨g1, g2⟩ := fin (q + 1) f hq h1 h2 h3 (fun j hj => by have := le_I_mono hs (show j ≤ q by omega) (by omega); omega)
      refine ⟨_, _, ?_, g1, g2⟩
      rw [f_Co_leastFor_L22]
      simp (disch := omega) only [n_lt, n_le, n_eq, n_cl, n_sub, nI_add, pk_mul, n_subL, n_Lsub, n_neN, n_Nne, n_leN, n_ltN, n_Nlt, n_Nle, le_T, le_F, lt_T, lt_F, eq_T, eq_F, true_or, or_true, false_or, or_false, true_and, and_true, false_and, and_false, and_self, or_self, not_true_eq_false, not_false_eq_true, decide_eq_true_eq, decide_true, decide_false, Bool.false_eq_true, Bool.true_eq_false, eq_self, ↓reduceIte, Option.bind_some, mo_in, lit_0, lit_1, lit_2, lit_3, lit_4, lit_5, lit_6, lit_7, lit_8, lit_9, lit_10, lit_11, lit_12, lit_13, lit_14, lit_15, lit_16, lit_20, lit_22, lit_24, lit_28, lit_30, lit_31, lit_32, lit_39, lit_40, lit_42, lit_48, lit_50, lit_57, lit_60, lit_61, lit_62, lit_63, lit_64, lit_100, lit_120, lit_121, lit_122, lit_128, lit_130, lit_255, lit_256, lit_360, lit_1024, lit_2147483647, f_Co_leastFor_L63, hck, Nat.add_sub_cancel, e1]
    · obtain ⟨f', s', g1, g2, g3⟩ := ih n (upd f (q + 1) (nI (s q))) (by omega) (by omega) (fun j hj => by rw [pk_un (by omega)]; exact h1 j (by omega)) (fun j hj hj2 => by
        by_cases e : j = q + 1
        · subst e; rw [pk_us]; rfl
        · rw [pk_un e]; exact h2 j (by omega) hj2) (fun j hj hj2 => by
        by_cases e : j = q
        · subst e; omega
        · exact h3 j (by omega) hj2)
      refine ⟨f', s', ?_, g2, g3⟩
      rw [← g1, f_Co_leastFor_L22, pk_m1]
      simp (disch := omega) only [n_lt, n_le, n_eq, n_cl, n_sub, nI_add, pk_mul, n_subL, n_Lsub, n_neN, n_Nne, n_leN, n_ltN, n_Nlt, n_Nle, le_T, le_F, lt_T, lt_F, eq_T, eq_F, true_or, or_true, false_or, or_false, true_and, and_true, false_and, and_false, and_self, or_self, not_true_eq_false, not_false_eq_true, decide_eq_true_eq, decide_true, decide_false, Bool.false_eq_true, Bool.true_eq_false, eq_self, ↓reduceIte, Option.bind_some, mo_in, lit_0, lit_1, lit_2, lit_3, lit_4, lit_5, lit_6, lit_7, lit_8, lit_9, lit_10, lit_11, lit_12, lit_13, lit_14, lit_15, lit_16, lit_20, lit_22, lit_24, lit_28, lit_30, lit_31, lit_32, lit_39, lit_40, lit_42, lit_48, lit_50, lit_57, lit_60, lit_61, lit_62, lit_63, lit_64, lit_100, lit_120, lit_121, lit_122, lit_128, lit_130, lit_255, lit_256, lit_360, lit_1024, lit_2147483647, hck, Nat.add_sub_cancel, e1]
theorem co_L85 {s : Nat → Nat} {n : Nat} (hn : n ≤ 10) (h9 : ∀ j, j < n → s j ≤ 9) {f : Nat → Int32} (hf : ∀ j, j < n → f j = nI (s j)) : ∀ (e i fu : Nat), i + e = n → e < fu → f_Co_leastFor_L85 fu (nI n) (nI (fb_sm (fun j => s j * 2 ^ (n - 1 - j)) i)) (nI i) f = some (nI (fb_sm (fun j => s j * 2 ^ (n - 1 - j)) n), f) := by
  intro e
  induction e with
  | zero =>
    intro i fu hi hfu
    obtain ⟨m, rfl⟩ : ∃ m, fu = m + 1 := ⟨fu - 1, by omega⟩
    obtain rfl : i = n := by omega
    rw [f_Co_leastFor_L85]
    simp (disch := omega) only [n_lt, n_le, n_eq, n_cl, n_sub, nI_add, pk_mul, n_subL, n_Lsub, n_neN, n_Nne, n_leN, n_ltN, n_Nlt, n_Nle, le_T, le_F, lt_T, lt_F, eq_T, eq_F, true_or, or_true, false_or, or_false, true_and, and_true, false_and, and_false, and_self, or_self, not_true_eq_false, not_false_eq_true, decide_eq_true_eq, decide_true, decide_false, Bool.false_eq_true, Bool.true_eq_false, eq_self, ↓reduceIte, Option.bind_some, mo_in, lit_0, lit_1, lit_2, lit_3, lit_4, lit_5, lit_6, lit_7, lit_8, lit_9, lit_10, lit_11, lit_12, lit_13, lit_14, lit_15, lit_16, lit_20, lit_22, lit_24, lit_28, lit_30, lit_31, lit_32, lit_39, lit_40, lit_42, lit_48, lit_50, lit_57, lit_60, lit_61, lit_62, lit_63, lit_64, lit_100, lit_120, lit_121, lit_122, lit_128, lit_130, lit_255, lit_256, lit_360, lit_1024, lit_2147483647]
  | succ e ih =>
    intro i fu hi hfu
    obtain ⟨m, rfl⟩ : ∃ m, fu = m + 1 := ⟨fu - 1, by omega⟩
    have e1 := hf i (by omega)
    have e2 := h9 i (by omega)
    have e3 : s i * 2 ^ (n - 1 - i) ≤ 9 * 2 ^ 9 := Nat.mul_le_mul e2 (Nat.pow_le_pow_right (by decide) (by omega))
    have e4 : s i * 2 ^ (n - 1 - i) < 4294967296 := by omega
    have e5 := n_shl (a := s i) (m := n - 1 - i) (by omega) e4
    have e6 := ih (i + 1) m (by omega) (by omega)
    rw [fb_sm_succ] at e6
    rw [f_Co_leastFor_L85]
    simp (disch := omega) only [n_lt, n_le, n_eq, n_cl, n_sub, nI_add, pk_mul, n_subL, n_Lsub, n_neN, n_Nne, n_leN, n_ltN, n_Nlt, n_Nle, le_T, le_F, lt_T, lt_F, eq_T, eq_F, true_or, or_true, false_or, or_false, true_and, and_true, false_and, and_false, and_self, or_self, not_true_eq_false, not_false_eq_true, decide_eq_true_eq, decide_true, decide_false, Bool.false_eq_true, Bool.true_eq_false, eq_self, ↓reduceIte, Option.bind_some, mo_in, lit_0, lit_1, lit_2, lit_3, lit_4, lit_5, lit_6, lit_7, lit_8, lit_9, lit_10, lit_11, lit_12, lit_13, lit_14, lit_15, lit_16, lit_20, lit_22, lit_24, lit_28, lit_30, lit_31, lit_32, lit_39, lit_40, lit_42, lit_48, lit_50, lit_57, lit_60, lit_61, lit_62, lit_63, lit_64, lit_100, lit_120, lit_121, lit_122, lit_128, lit_130, lit_255, lit_256, lit_360, lit_1024, lit_2147483647, e1, e5]
    exact e6
theorem co_least {c : Nat → Nat} {n : Nat} (hn1 : 1 ≤ n) (hn : n ≤ 10) {pr : Nat → Int32} (hp : ∀ j, j < 10 → pr j = nI (c j)) (hc : ∀ j, j < 10 → c j ≤ 9) (f0 : Nat → Int32) : ∃ s f', le_I c n s ∧ f_Co_leastFor (nI n) f0 pr = some (nI (fb_sm (fun j => s j * 2 ^ (n - 1 - j)) n), f') := by
  have h : ∀ (e k fu : Nat) (f : Nat → Int32) (s : Nat → Nat), k + e = n → e < fu → le_I c k s → (∀ j, j < k → f j = nI (s j)) → ∃ s f', le_I c n s ∧ f_Co_leastFor_L15 fu (nI n) (nI k) f pr = some (nI (fb_sm (fun j => s j * 2 ^ (n - 1 - j)) n), f') := by
    intro e
    induction e with
    | zero =>
      intro k fu f s hk hfu hs hf
      obtain ⟨m, rfl⟩ : ∃ m, fu = m + 1 := ⟨fu - 1, by omega⟩
      obtain rfl : k = n := by omega
      refine ⟨s, f, hs, ?_⟩
      have e1 := co_L85 hn (fun j hj => le_I_9 (fun j hj => hc j (by omega)) hs hj) hf k 0 3000 (by omega) (by omega)
      rw [f_Co_leastFor_L15]
      simp (disch := omega) only [n_lt, n_le, n_eq, n_cl, n_sub, nI_add, pk_mul, n_subL, n_Lsub, n_neN, n_Nne, n_leN, n_ltN, n_Nlt, n_Nle, le_T, le_F, lt_T, lt_F, eq_T, eq_F, true_or, or_true, false_or, or_false, true_and, and_true, false_and, and_false, and_self, or_self, not_true_eq_false, not_false_eq_true, decide_eq_true_eq, decide_true, decide_false, Bool.false_eq_true, Bool.true_eq_false, eq_self, ↓reduceIte, Option.bind_some, mo_in, lit_0, lit_1, lit_2, lit_3, lit_4, lit_5, lit_6, lit_7, lit_8, lit_9, lit_10, lit_11, lit_12, lit_13, lit_14, lit_15, lit_16, lit_20, lit_22, lit_24, lit_28, lit_30, lit_31, lit_32, lit_39, lit_40, lit_42, lit_48, lit_50, lit_57, lit_60, lit_61, lit_62, lit_63, lit_64, lit_100, lit_120, lit_121, lit_122, lit_128, lit_130, lit_255, lit_256, lit_360, lit_1024, lit_2147483647]
      exact e1
    | succ e ih =>
      intro k fu f s hk hfu hs hf
      obtain ⟨m, rfl⟩ : ∃ m, fu = m + 1 := ⟨fu - 1, by omega⟩
      obtain ⟨f', s', g1, g2, g3⟩ := co_L22 (nI n) (by omega) hp hc hs (f_Co_leastFor_L15 m) k 3000 f (by omega) (by omega) hf (fun j hj hj2 => absurd hj (by omega)) (fun j hj hj2 => absurd hj (by omega))
      obtain ⟨s2, f2, g4, g5⟩ := ih (k + 1) m f' s' (by omega) (by omega) g2 g3
      refine ⟨s2, f2, g4, ?_⟩
      rw [f_Co_leastFor_L15]
      simp (disch := omega) only [n_lt, n_le, n_eq, n_cl, n_sub, nI_add, pk_mul, n_subL, n_Lsub, n_neN, n_Nne, n_leN, n_ltN, n_Nlt, n_Nle, le_T, le_F, lt_T, lt_F, eq_T, eq_F, true_or, or_true, false_or, or_false, true_and, and_true, false_and, and_false, and_self, or_self, not_true_eq_false, not_false_eq_true, decide_eq_true_eq, decide_true, decide_false, Bool.false_eq_true, Bool.true_eq_false, eq_self, ↓reduceIte, Option.bind_some, mo_in, lit_0, lit_1, lit_2, lit_3, lit_4, lit_5, lit_6, lit_7, lit_8, lit_9, lit_10, lit_11, lit_12, lit_13, lit_14, lit_15, lit_16, lit_20, lit_22, lit_24, lit_28, lit_30, lit_31, lit_32, lit_39, lit_40, lit_42, lit_48, lit_50, lit_57, lit_60, lit_61, lit_62, lit_63, lit_64, lit_100, lit_120, lit_121, lit_122, lit_128, lit_130, lit_255, lit_256, lit_360, lit_1024, lit_2147483647, g1]
      exact g5
  obtain ⟨s, f', g1, g2⟩ := h n 0 3000 f0 (fun _ => 0) (by omega) (by omega) (fun j hj => absurd hj (by omega)) (fun j hj => absurd hj (by omega))
  refine ⟨s, f', g1, ?_⟩
  rw [← g2, f_Co_leastFor]
  simp (disch := omega) only [n_lt, n_le, n_eq, n_cl, n_sub, nI_add, pk_mul, n_subL, n_Lsub, n_neN, n_Nne, n_leN, n_ltN, n_Nlt, n_Nle, le_T, le_F, lt_T, lt_F, eq_T, eq_F, true_or, or_true, false_or, or_false, true_and, and_true, false_and, and_false, and_self, or_self, not_true_eq_false, not_false_eq_true, decide_eq_true_eq, decide_true, decide_false, Bool.false_eq_true, Bool.true_eq_false, eq_self, ↓reduceIte, Option.bind_some, mo_in, lit_0, lit_1, lit_2, lit_3, lit_4, lit_5, lit_6, lit_7, lit_8, lit_9, lit_10, lit_11, lit_12, lit_13, lit_14, lit_15, lit_16, lit_20, lit_22, lit_24, lit_28, lit_30, lit_31, lit_32, lit_39, lit_40, lit_42, lit_48, lit_50, lit_57, lit_60, lit_61, lit_62, lit_63, lit_64, lit_100, lit_120, lit_121, lit_122, lit_128, lit_130, lit_255, lit_256, lit_360, lit_1024, lit_2147483647]
theorem mo_L22 {c s : Nat → Nat} {n v : Nat} (hn1 : 1 ≤ n) (hn : n ≤ 10) {co : Nat → Int32} (hp : ∀ j, j < 10 → co j = nI (c j)) (hc : ∀ j, j < 10 → c j ≤ 9) (hv : v ≤ 9) (hs : le_I c n s) (k13 : Int32 → Int32 → Int32 → Int32 → (Nat → Int32) → Option Int32) : ∀ (e l fu m : Nat), l + e = n → e < fu → m = le_C c n v + fb_ct (fun i => decide (c i = v)) l → f_Mo_least_L22 k13 fu (nI (fb_sm (fun j => s j * 2 ^ (n - 1 - j)) m)) (nI (2 ^ (n - 1) / 2 ^ m)) (nI v) (nI l) (nI n) co = k13 (nI (fb_sm (fun j => s j * 2 ^ (n - 1 - j)) (le_C c n (v + 1)))) (nI (2 ^ (n - 1) / 2 ^ (le_C c n (v + 1)))) (nI (v + 1)) (nI n) co := by
  intro e
  induction e with
  | zero =>
    intro l fu m hl hfu hm
    obtain ⟨w, rfl⟩ : ∃ w, fu = w + 1 := ⟨fu - 1, by omega⟩
    obtain rfl : l = n := by omega
    rw [← le_E] at hm
    subst hm
    rw [f_Mo_least_L22]
    simp (disch := omega) only [n_lt, n_le, n_eq, n_cl, n_sub, nI_add, pk_mul, n_subL, n_Lsub, n_neN, n_Nne, n_leN, n_ltN, n_Nlt, n_Nle, le_T, le_F, lt_T, lt_F, eq_T, eq_F, true_or, or_true, false_or, or_false, true_and, and_true, false_and, and_false, and_self, or_self, not_true_eq_false, not_false_eq_true, decide_eq_true_eq, decide_true, decide_false, Bool.false_eq_true, Bool.true_eq_false, eq_self, ↓reduceIte, Option.bind_some, mo_in, lit_0, lit_1, lit_2, lit_3, lit_4, lit_5, lit_6, lit_7, lit_8, lit_9, lit_10, lit_11, lit_12, lit_13, lit_14, lit_15, lit_16, lit_20, lit_22, lit_24, lit_28, lit_30, lit_31, lit_32, lit_39, lit_40, lit_42, lit_48, lit_50, lit_57, lit_60, lit_61, lit_62, lit_63, lit_64, lit_100, lit_120, lit_121, lit_122, lit_128, lit_130, lit_255, lit_256, lit_360, lit_1024, lit_2147483647]
  | succ e ih =>
    intro l fu m hl hfu hm
    obtain ⟨w, rfl⟩ : ∃ w, fu = w + 1 := ⟨fu - 1, by omega⟩
    have e1 := hp l (by omega)
    have e2 := hc l (by omega)
    by_cases h : c l = v
    · have e3 : fb_ct (fun i => decide (c i = v)) (l + 1) = fb_ct (fun i => decide (c i = v)) l + 1 := by rw [fb_ct_succ, if_pos (by simp [h])]
      have e4 := fb_ct_mono (fun i => decide (c i = v)) (show l + 1 ≤ n by omega)
      have e5 := le_E c v n
      have e6 := le_C_le c n (v + 1)
      have e7 : s m = v := le_I_at hs (by omega) (by omega) (by omega)
      have e8 := ih (l + 1) w (m + 1) (by omega) (by omega) (by omega)
      rw [fb_sm_succ, e7] at e8
      have e9 : 2 ^ (n - 1) / 2 ^ m = 2 ^ (n - 1 - m) := Nat.pow_div (by omega) (by decide)
      have e10 : 2 ^ (n - 1) / 2 ^ (m + 1) = 2 ^ (n - 1 - m) / 2 := by rw [Nat.pow_succ, ← Nat.div_div_eq_div_mul, e9]
      have e11 : 2 ^ (n - 1 - m) ≤ 2 ^ 9 := Nat.pow_le_pow_right (by decide) (by omega)
      rw [e10] at e8
      rw [e9, f_Mo_least_L22]
      simp (disch := omega) only [n_lt, n_le, n_eq, n_cl, n_sub, nI_add, pk_mul, n_subL, n_Lsub, n_neN, n_Nne, n_leN, n_ltN, n_Nlt, n_Nle, le_T, le_F, lt_T, lt_F, eq_T, eq_F, true_or, or_true, false_or, or_false, true_and, and_true, false_and, and_false, and_self, or_self, not_true_eq_false, not_false_eq_true, decide_eq_true_eq, decide_true, decide_false, Bool.false_eq_true, Bool.true_eq_false, eq_self, ↓reduceIte, Option.bind_some, mo_in, lit_0, lit_1, lit_2, lit_3, lit_4, lit_5, lit_6, lit_7, lit_8, lit_9, lit_10, lit_11, lit_12, lit_13, lit_14, lit_15, lit_16, lit_20, lit_22, lit_24, lit_28, lit_30, lit_31, lit_32, lit_39, lit_40, lit_42, lit_48, lit_50, lit_57, lit_60, lit_61, lit_62, lit_63, lit_64, lit_100, lit_120, lit_121, lit_122, lit_128, lit_130, lit_255, lit_256, lit_360, lit_1024, lit_2147483647, f_Mo_least_L55, e1, h, pk_div]
      exact e8
    · have e3 : fb_ct (fun i => decide (c i = v)) (l + 1) = fb_ct (fun i => decide (c i = v)) l := by rw [fb_ct_succ, if_neg (by simp [h])]; rfl
      have e8 := ih (l + 1) w m (by omega) (by omega) (by omega)
      rw [f_Mo_least_L22]
      simp (disch := omega) only [n_lt, n_le, n_eq, n_cl, n_sub, nI_add, pk_mul, n_subL, n_Lsub, n_neN, n_Nne, n_leN, n_ltN, n_Nlt, n_Nle, le_T, le_F, lt_T, lt_F, eq_T, eq_F, true_or, or_true, false_or, or_false, true_and, and_true, false_and, and_false, and_self, or_self, not_true_eq_false, not_false_eq_true, decide_eq_true_eq, decide_true, decide_false, Bool.false_eq_true, Bool.true_eq_false, eq_self, ↓reduceIte, Option.bind_some, mo_in, lit_0, lit_1, lit_2, lit_3, lit_4, lit_5, lit_6, lit_7, lit_8, lit_9, lit_10, lit_11, lit_12, lit_13, lit_14, lit_15, lit_16, lit_20, lit_22, lit_24, lit_28, lit_30, lit_31, lit_32, lit_39, lit_40, lit_42, lit_48, lit_50, lit_57, lit_60, lit_61, lit_62, lit_63, lit_64, lit_100, lit_120, lit_121, lit_122, lit_128, lit_130, lit_255, lit_256, lit_360, lit_1024, lit_2147483647, f_Mo_least_L55, e1]
      exact e8
theorem mo_least {c s : Nat → Nat} {n : Nat} (hn1 : 1 ≤ n) (hn : n ≤ 10) {co : Nat → Int32} (hp : ∀ j, j < 10 → co j = nI (c j)) (hc : ∀ j, j < 10 → c j ≤ 9) (hs : le_I c n s) : f_Mo_least (nI n) co = some (nI (fb_sm (fun j => s j * 2 ^ (n - 1 - j)) n)) := by
  have h : ∀ (e v fu : Nat), v + e = 10 → e < fu → f_Mo_least_L13 fu (nI (fb_sm (fun j => s j * 2 ^ (n - 1 - j)) (le_C c n v))) (nI (2 ^ (n - 1) / 2 ^ (le_C c n v))) (nI v) (nI n) co = some (nI (fb_sm (fun j => s j * 2 ^ (n - 1 - j)) n)) := by
    intro e
    induction e with
    | zero =>
      intro v fu hv hfu
      obtain ⟨w, rfl⟩ : ∃ w, fu = w + 1 := ⟨fu - 1, by omega⟩
      rw [f_Mo_least_L13, le_full (fun j hj => hc j (by omega)) (by omega)]
      simp (disch := omega) only [n_lt, n_le, n_eq, n_cl, n_sub, nI_add, pk_mul, n_subL, n_Lsub, n_neN, n_Nne, n_leN, n_ltN, n_Nlt, n_Nle, le_T, le_F, lt_T, lt_F, eq_T, eq_F, true_or, or_true, false_or, or_false, true_and, and_true, false_and, and_false, and_self, or_self, not_true_eq_false, not_false_eq_true, decide_eq_true_eq, decide_true, decide_false, Bool.false_eq_true, Bool.true_eq_false, eq_self, ↓reduceIte, Option.bind_some, mo_in, lit_0, lit_1, lit_2, lit_3, lit_4, lit_5, lit_6, lit_7, lit_8, lit_9, lit_10, lit_11, lit_12, lit_13, lit_14, lit_15, lit_16, lit_20, lit_22, lit_24, lit_28, lit_30, lit_31, lit_32, lit_39, lit_40, lit_42, lit_48, lit_50, lit_57, lit_60, lit_61, lit_62, lit_63, lit_64, lit_100, lit_120, lit_121, lit_122, lit_128, lit_130, lit_255, lit_256, lit_360, lit_1024, lit_2147483647]
    | succ e ih =>
      intro v fu hv hfu
      obtain ⟨w, rfl⟩ : ∃ w, fu = w + 1 := ⟨fu - 1, by omega⟩
      have e1 := mo_L22 hn1 hn hp hc (show v ≤ 9 by omega) hs (f_Mo_least_L13 w) n 0 3000 (le_C c n v) (by omega) (by omega) rfl
      have e2 := ih (v + 1) w (by omega) (by omega)
      rw [f_Mo_least_L13]
      simp (disch := omega) only [n_lt, n_le, n_eq, n_cl, n_sub, nI_add, pk_mul, n_subL, n_Lsub, n_neN, n_Nne, n_leN, n_ltN, n_Nlt, n_Nle, le_T, le_F, lt_T, lt_F, eq_T, eq_F, true_or, or_true, false_or, or_false, true_and, and_true, false_and, and_false, and_self, or_self, not_true_eq_false, not_false_eq_true, decide_eq_true_eq, decide_true, decide_false, Bool.false_eq_true, Bool.true_eq_false, eq_self, ↓reduceIte, Option.bind_some, mo_in, lit_0, lit_1, lit_2, lit_3, lit_4, lit_5, lit_6, lit_7, lit_8, lit_9, lit_10, lit_11, lit_12, lit_13, lit_14, lit_15, lit_16, lit_20, lit_22, lit_24, lit_28, lit_30, lit_31, lit_32, lit_39, lit_40, lit_42, lit_48, lit_50, lit_57, lit_60, lit_61, lit_62, lit_63, lit_64, lit_100, lit_120, lit_121, lit_122, lit_128, lit_130, lit_255, lit_256, lit_360, lit_1024, lit_2147483647, e1]
      exact e2
  have h1 := h 10 0 3000 (by omega) (by omega)
  rw [le_zero] at h1
  have e3 : 1 * 2 ^ (n - 1) < 4294967296 := by
    have : 2 ^ (n - 1) ≤ 2 ^ 9 := Nat.pow_le_pow_right (by decide) (by omega)
    omega
  have e4 := n_shl (a := 1) (m := n - 1) (by omega) e3
  rw [Nat.one_mul] at e4
  have e5 : 2 ^ (n - 1) / 2 ^ 0 = 2 ^ (n - 1) := Nat.div_one _
  rw [e5] at h1
  rw [← h1, f_Mo_least]
  simp (disch := omega) only [n_lt, n_le, n_eq, n_cl, n_sub, nI_add, pk_mul, n_subL, n_Lsub, n_neN, n_Nne, n_leN, n_ltN, n_Nlt, n_Nle, le_T, le_F, lt_T, lt_F, eq_T, eq_F, true_or, or_true, false_or, or_false, true_and, and_true, false_and, and_false, and_self, or_self, not_true_eq_false, not_false_eq_true, decide_eq_true_eq, decide_true, decide_false, Bool.false_eq_true, Bool.true_eq_false, eq_self, ↓reduceIte, Option.bind_some, mo_in, lit_0, lit_1, lit_2, lit_3, lit_4, lit_5, lit_6, lit_7, lit_8, lit_9, lit_10, lit_11, lit_12, lit_13, lit_14, lit_15, lit_16, lit_20, lit_22, lit_24, lit_28, lit_30, lit_31, lit_32, lit_39, lit_40, lit_42, lit_48, lit_50, lit_57, lit_60, lit_61, lit_62, lit_63, lit_64, lit_100, lit_120, lit_121, lit_122, lit_128, lit_130, lit_255, lit_256, lit_360, lit_1024, lit_2147483647]
  rw [e4]
  rfl
theorem ok_now {t : Nat} {x_L_wall_lamps : Int32} {x_L_wall_picture : Int32} {x_L_wall_night : Int32} {x_L_wall_spent : Int32} {x_L_wall_had_words : Nat → Int64} {x_L_wall_told_words : Nat → Int64} {x_L_wall_last : Nat → Int32} {x_L_wall_often : Nat → Int32} {x_M_lamps : Int32} {x_M_at : Int32} {x_M_night : Int32} {x_M_spent : Int32} {x_M_had : Nat → Int32} {x_M_told : Nat → Int32} {x_M_last : Nat → Int32} {x_M_often : Nat → Int32} {x_M_hasBegun : Bool} {x_L_costs_prices : Nat → Int32} {x_L_costs_lamps : Nat → Int32} {x_L_costs_before : Nat → Int32} {x_L_costs_after : Nat → Int32} {x_L_costs_done : Int32} {x_L_costs_undone : Int32} {x_M_cost : Nat → Int32} {x_M_changeAt : Nat → Int32} {x_M_before : Nat → Int32} {x_M_behind : Nat → Int32} {x_M_doneMany : Int32} {x_M_undoneMany : Int32} {x_L_rules_rest : Int32} {x_L_rules_shy : Int32} {x_M_rest : Int32} {x_M_shy : Int32} {x_L_costs_sorted : Nat → Int32} (ht : t < 64) (p1 : Int32) (hW : R_wall t x_L_wall_lamps x_L_wall_picture x_L_wall_night x_L_wall_spent x_L_wall_had_words x_L_wall_told_words x_L_wall_last x_L_wall_often x_M_lamps x_M_at x_M_night x_M_spent x_M_had x_M_told x_M_last x_M_often x_M_hasBegun) (hP : R_costs x_L_costs_prices x_L_costs_lamps x_L_costs_before x_L_costs_after x_L_costs_done x_L_costs_undone x_M_cost x_M_changeAt x_M_before x_M_behind x_M_doneMany x_M_undoneMany) (hU : R_set x_L_rules_rest x_L_rules_shy x_M_rest x_M_shy) : ∃ (r : Int32) (u_L_costs_sorted : Nat → Int32) (u_M_at : Int32) (u_M_night : Int32) (u_M_spent : Int32) (u_M_hasBegun : Bool) (u_M_had : Nat → Int32) (u_M_last : Nat → Int32) (u_M_often : Nat → Int32), f_OL_now p1 x_L_rules_rest x_L_rules_shy x_L_wall_lamps x_L_wall_picture x_L_wall_night x_L_wall_spent x_L_costs_sorted x_L_costs_prices x_L_wall_had_words = some (r, u_L_costs_sorted) ∧ f_Mo_now p1 x_M_lamps x_M_at x_M_night x_M_spent x_M_rest x_M_shy x_M_hasBegun x_M_had x_M_last x_M_often x_M_cost = some (r, u_M_at, u_M_night, u_M_spent, u_M_hasBegun, u_M_had, u_M_last, u_M_often) ∧ R_wall t x_L_wall_lamps x_L_wall_picture x_L_wall_night x_L_wall_spent x_L_wall_had_words x_L_wall_told_words x_L_wall_last x_L_wall_often x_M_lamps u_M_at u_M_night u_M_spent u_M_had x_M_told u_M_last u_M_often u_M_hasBegun ∧ (x_M_hasBegun = true → u_M_hasBegun = true) := by
  obtain ⟨mh, ml, mo, e0, hR⟩ := wall_ready hW
  have hR' := hR
  obtain ⟨⟨n, p, k, h1, h10, hp, hk, hl, e2, e3, hb1, hb2⟩, e4, e5, e6, e7, hT, hL, hH⟩ := hR'
  subst hl e4 e5 e6 e7 e2 e3
  have hH2 : ∀ q, q < 1024 → mh q = b2i (bitw x_L_wall_had_words q) := by
    rcases hH with ⟨_, hH⟩ | ⟨z, _⟩
    · exact hH
    · cases z
  obtain ⟨hc, _⟩ := hP
  obtain ⟨rfl, rfl⟩ := hU
  obtain ⟨c, hcc⟩ : ∃ c : Nat → Nat, ∀ j, j < 10 → c j ≤ 9 ∧ x_L_costs_prices j = nI (c j) ∧ x_M_cost j = nI (c j) := by
    refine ⟨fun j => if h : j < 10 then (hc j h).choose else 0, fun j hj => ?_⟩
    simp only [dif_pos hj]
    exact (hc j hj).choose_spec
  obtain ⟨s, f', g1, g2⟩ := co_least h1 h10 (fun j hj => (hcc j hj).2.1) (fun j hj => (hcc j hj).1) x_L_costs_sorted
  have g3 := mo_least h1 h10 (fun j hj => (hcc j hj).2.2) (fun j hj => (hcc j hj).1) g1
  have g4 := pi_size x_L_wall_had_words
  have g5 := mo_had_many h10 hH2 hb2
  rcases n_cases p1 with a | ⟨j, hj, rfl⟩
  · simp (disch := omega) only [n_lt, n_le, n_eq, n_cl, n_sub, nI_add, pk_mul, n_subL, n_Lsub, n_neN, n_Nne, n_leN, n_ltN, n_Nlt, n_Nle, le_T, le_F, lt_T, lt_F, eq_T, eq_F, true_or, or_true, false_or, or_false, true_and, and_true, false_and, and_false, and_self, or_self, not_true_eq_false, not_false_eq_true, decide_eq_true_eq, decide_true, decide_false, Bool.false_eq_true, Bool.true_eq_false, eq_self, ↓reduceIte, Option.bind_some, mo_in, lit_0, lit_1, lit_2, lit_3, lit_4, lit_5, lit_6, lit_7, lit_8, lit_9, lit_10, lit_11, lit_12, lit_13, lit_14, lit_15, lit_16, lit_20, lit_22, lit_24, lit_28, lit_30, lit_31, lit_32, lit_39, lit_40, lit_42, lit_48, lit_50, lit_57, lit_60, lit_61, lit_62, lit_63, lit_64, lit_100, lit_120, lit_121, lit_122, lit_128, lit_130, lit_255, lit_256, lit_360, lit_1024, lit_2147483647, f_OL_now, f_Mo_now, e0, m_lt a, m_le a, m_gt a, m_ge a, m_eq a]
    exact ⟨_, _, _, _, _, _, _, _, _, rfl, rfl, hR, fun _ => rfl⟩
  by_cases c0 : j = 0
  · simp (disch := omega) only [n_lt, n_le, n_eq, n_cl, n_sub, nI_add, pk_mul, n_subL, n_Lsub, n_neN, n_Nne, n_leN, n_ltN, n_Nlt, n_Nle, le_T, le_F, lt_T, lt_F, eq_T, eq_F, true_or, or_true, false_or, or_false, true_and, and_true, false_and, and_false, and_self, or_self, not_true_eq_false, not_false_eq_true, decide_eq_true_eq, decide_true, decide_false, Bool.false_eq_true, Bool.true_eq_false, eq_self, ↓reduceIte, Option.bind_some, mo_in, lit_0, lit_1, lit_2, lit_3, lit_4, lit_5, lit_6, lit_7, lit_8, lit_9, lit_10, lit_11, lit_12, lit_13, lit_14, lit_15, lit_16, lit_20, lit_22, lit_24, lit_28, lit_30, lit_31, lit_32, lit_39, lit_40, lit_42, lit_48, lit_50, lit_57, lit_60, lit_61, lit_62, lit_63, lit_64, lit_100, lit_120, lit_121, lit_122, lit_128, lit_130, lit_255, lit_256, lit_360, lit_1024, lit_2147483647, f_OL_now, f_Mo_now, e0]
    exact ⟨_, _, _, _, _, _, _, _, _, rfl, rfl, hR, fun _ => rfl⟩
  by_cases c1 : j = 1
  · simp (disch := omega) only [n_lt, n_le, n_eq, n_cl, n_sub, nI_add, pk_mul, n_subL, n_Lsub, n_neN, n_Nne, n_leN, n_ltN, n_Nlt, n_Nle, le_T, le_F, lt_T, lt_F, eq_T, eq_F, true_or, or_true, false_or, or_false, true_and, and_true, false_and, and_false, and_self, or_self, not_true_eq_false, not_false_eq_true, decide_eq_true_eq, decide_true, decide_false, Bool.false_eq_true, Bool.true_eq_false, eq_self, ↓reduceIte, Option.bind_some, mo_in, lit_0, lit_1, lit_2, lit_3, lit_4, lit_5, lit_6, lit_7, lit_8, lit_9, lit_10, lit_11, lit_12, lit_13, lit_14, lit_15, lit_16, lit_20, lit_22, lit_24, lit_28, lit_30, lit_31, lit_32, lit_39, lit_40, lit_42, lit_48, lit_50, lit_57, lit_60, lit_61, lit_62, lit_63, lit_64, lit_100, lit_120, lit_121, lit_122, lit_128, lit_130, lit_255, lit_256, lit_360, lit_1024, lit_2147483647, f_OL_now, f_Mo_now, e0]
    exact ⟨_, _, _, _, _, _, _, _, _, rfl, rfl, hR, fun _ => rfl⟩
  by_cases c2 : j = 2
  · simp (disch := omega) only [n_lt, n_le, n_eq, n_cl, n_sub, nI_add, pk_mul, n_subL, n_Lsub, n_neN, n_Nne, n_leN, n_ltN, n_Nlt, n_Nle, le_T, le_F, lt_T, lt_F, eq_T, eq_F, true_or, or_true, false_or, or_false, true_and, and_true, false_and, and_false, and_self, or_self, not_true_eq_false, not_false_eq_true, decide_eq_true_eq, decide_true, decide_false, Bool.false_eq_true, Bool.true_eq_false, eq_self, ↓reduceIte, Option.bind_some, mo_in, lit_0, lit_1, lit_2, lit_3, lit_4, lit_5, lit_6, lit_7, lit_8, lit_9, lit_10, lit_11, lit_12, lit_13, lit_14, lit_15, lit_16, lit_20, lit_22, lit_24, lit_28, lit_30, lit_31, lit_32, lit_39, lit_40, lit_42, lit_48, lit_50, lit_57, lit_60, lit_61, lit_62, lit_63, lit_64, lit_100, lit_120, lit_121, lit_122, lit_128, lit_130, lit_255, lit_256, lit_360, lit_1024, lit_2147483647, f_OL_now, f_Mo_now, e0]
    exact ⟨_, _, _, _, _, _, _, _, _, rfl, rfl, hR, fun _ => rfl⟩
  by_cases c3 : j = 3
  · simp (disch := omega) only [n_lt, n_le, n_eq, n_cl, n_sub, nI_add, pk_mul, n_subL, n_Lsub, n_neN, n_Nne, n_leN, n_ltN, n_Nlt, n_Nle, le_T, le_F, lt_T, lt_F, eq_T, eq_F, true_or, or_true, false_or, or_false, true_and, and_true, false_and, and_false, and_self, or_self, not_true_eq_false, not_false_eq_true, decide_eq_true_eq, decide_true, decide_false, Bool.false_eq_true, Bool.true_eq_false, eq_self, ↓reduceIte, Option.bind_some, mo_in, lit_0, lit_1, lit_2, lit_3, lit_4, lit_5, lit_6, lit_7, lit_8, lit_9, lit_10, lit_11, lit_12, lit_13, lit_14, lit_15, lit_16, lit_20, lit_22, lit_24, lit_28, lit_30, lit_31, lit_32, lit_39, lit_40, lit_42, lit_48, lit_50, lit_57, lit_60, lit_61, lit_62, lit_63, lit_64, lit_100, lit_120, lit_121, lit_122, lit_128, lit_130, lit_255, lit_256, lit_360, lit_1024, lit_2147483647, f_OL_now, f_Mo_now, e0, g4, g5]
    exact ⟨_, _, _, _, _, _, _, _, _, rfl, rfl, hR, fun _ => rfl⟩
  by_cases c4 : j = 4
  · simp (disch := omega) only [n_lt, n_le, n_eq, n_cl, n_sub, nI_add, pk_mul, n_subL, n_Lsub, n_neN, n_Nne, n_leN, n_ltN, n_Nlt, n_Nle, le_T, le_F, lt_T, lt_F, eq_T, eq_F, true_or, or_true, false_or, or_false, true_and, and_true, false_and, and_false, and_self, or_self, not_true_eq_false, not_false_eq_true, decide_eq_true_eq, decide_true, decide_false, Bool.false_eq_true, Bool.true_eq_false, eq_self, ↓reduceIte, Option.bind_some, mo_in, lit_0, lit_1, lit_2, lit_3, lit_4, lit_5, lit_6, lit_7, lit_8, lit_9, lit_10, lit_11, lit_12, lit_13, lit_14, lit_15, lit_16, lit_20, lit_22, lit_24, lit_28, lit_30, lit_31, lit_32, lit_39, lit_40, lit_42, lit_48, lit_50, lit_57, lit_60, lit_61, lit_62, lit_63, lit_64, lit_100, lit_120, lit_121, lit_122, lit_128, lit_130, lit_255, lit_256, lit_360, lit_1024, lit_2147483647, f_OL_now, f_Mo_now, e0]
    exact ⟨_, _, _, _, _, _, _, _, _, rfl, rfl, hR, fun _ => rfl⟩
  by_cases c5 : j = 5
  · simp (disch := omega) only [n_lt, n_le, n_eq, n_cl, n_sub, nI_add, pk_mul, n_subL, n_Lsub, n_neN, n_Nne, n_leN, n_ltN, n_Nlt, n_Nle, le_T, le_F, lt_T, lt_F, eq_T, eq_F, true_or, or_true, false_or, or_false, true_and, and_true, false_and, and_false, and_self, or_self, not_true_eq_false, not_false_eq_true, decide_eq_true_eq, decide_true, decide_false, Bool.false_eq_true, Bool.true_eq_false, eq_self, ↓reduceIte, Option.bind_some, mo_in, lit_0, lit_1, lit_2, lit_3, lit_4, lit_5, lit_6, lit_7, lit_8, lit_9, lit_10, lit_11, lit_12, lit_13, lit_14, lit_15, lit_16, lit_20, lit_22, lit_24, lit_28, lit_30, lit_31, lit_32, lit_39, lit_40, lit_42, lit_48, lit_50, lit_57, lit_60, lit_61, lit_62, lit_63, lit_64, lit_100, lit_120, lit_121, lit_122, lit_128, lit_130, lit_255, lit_256, lit_360, lit_1024, lit_2147483647, f_OL_now, f_Mo_now, e0, g2, g3]
    exact ⟨_, _, _, _, _, _, _, _, _, rfl, rfl, hR, fun _ => rfl⟩
  by_cases c6 : j = 6
  · simp (disch := omega) only [n_lt, n_le, n_eq, n_cl, n_sub, nI_add, pk_mul, n_subL, n_Lsub, n_neN, n_Nne, n_leN, n_ltN, n_Nlt, n_Nle, le_T, le_F, lt_T, lt_F, eq_T, eq_F, true_or, or_true, false_or, or_false, true_and, and_true, false_and, and_false, and_self, or_self, not_true_eq_false, not_false_eq_true, decide_eq_true_eq, decide_true, decide_false, Bool.false_eq_true, Bool.true_eq_false, eq_self, ↓reduceIte, Option.bind_some, mo_in, lit_0, lit_1, lit_2, lit_3, lit_4, lit_5, lit_6, lit_7, lit_8, lit_9, lit_10, lit_11, lit_12, lit_13, lit_14, lit_15, lit_16, lit_20, lit_22, lit_24, lit_28, lit_30, lit_31, lit_32, lit_39, lit_40, lit_42, lit_48, lit_50, lit_57, lit_60, lit_61, lit_62, lit_63, lit_64, lit_100, lit_120, lit_121, lit_122, lit_128, lit_130, lit_255, lit_256, lit_360, lit_1024, lit_2147483647, f_OL_now, f_Mo_now, e0]
    exact ⟨_, _, _, _, _, _, _, _, _, rfl, rfl, hR, fun _ => rfl⟩
  by_cases c7 : j = 7
  · simp (disch := omega) only [n_lt, n_le, n_eq, n_cl, n_sub, nI_add, pk_mul, n_subL, n_Lsub, n_neN, n_Nne, n_leN, n_ltN, n_Nlt, n_Nle, le_T, le_F, lt_T, lt_F, eq_T, eq_F, true_or, or_true, false_or, or_false, true_and, and_true, false_and, and_false, and_self, or_self, not_true_eq_false, not_false_eq_true, decide_eq_true_eq, decide_true, decide_false, Bool.false_eq_true, Bool.true_eq_false, eq_self, ↓reduceIte, Option.bind_some, mo_in, lit_0, lit_1, lit_2, lit_3, lit_4, lit_5, lit_6, lit_7, lit_8, lit_9, lit_10, lit_11, lit_12, lit_13, lit_14, lit_15, lit_16, lit_20, lit_22, lit_24, lit_28, lit_30, lit_31, lit_32, lit_39, lit_40, lit_42, lit_48, lit_50, lit_57, lit_60, lit_61, lit_62, lit_63, lit_64, lit_100, lit_120, lit_121, lit_122, lit_128, lit_130, lit_255, lit_256, lit_360, lit_1024, lit_2147483647, f_OL_now, f_Mo_now, e0]
    exact ⟨_, _, _, _, _, _, _, _, _, rfl, rfl, hR, fun _ => rfl⟩
  simp (disch := omega) only [n_lt, n_le, n_eq, n_cl, n_sub, nI_add, pk_mul, n_subL, n_Lsub, n_neN, n_Nne, n_leN, n_ltN, n_Nlt, n_Nle, le_T, le_F, lt_T, lt_F, eq_T, eq_F, true_or, or_true, false_or, or_false, true_and, and_true, false_and, and_false, and_self, or_self, not_true_eq_false, not_false_eq_true, decide_eq_true_eq, decide_true, decide_false, Bool.false_eq_true, Bool.true_eq_false, eq_self, ↓reduceIte, Option.bind_some, mo_in, lit_0, lit_1, lit_2, lit_3, lit_4, lit_5, lit_6, lit_7, lit_8, lit_9, lit_10, lit_11, lit_12, lit_13, lit_14, lit_15, lit_16, lit_20, lit_22, lit_24, lit_28, lit_30, lit_31, lit_32, lit_39, lit_40, lit_42, lit_48, lit_50, lit_57, lit_60, lit_61, lit_62, lit_63, lit_64, lit_100, lit_120, lit_121, lit_122, lit_128, lit_130, lit_255, lit_256, lit_360, lit_1024, lit_2147483647, f_OL_now, f_Mo_now, e0]
  exact ⟨_, _, _, _, _, _, _, _, _, rfl, rfl, hR, fun _ => rfl⟩
