/-! PURE: the wall, its two sides -/
theorem n_cases (x : Int32) : x < 0 ∨ ∃ j : Nat, j < 2147483648 ∧ x = nI j := by
  by_cases h : x < 0
  · exact Or.inl h
  · obtain ⟨j, hj, e⟩ := nI_of h; exact Or.inr ⟨j, hj, e⟩
theorem upd_base {α : Type} {f : Nat → α} {i : Nat} {v : Nat → α} : ∀ j, f j = if i ≤ j ∧ j < i then v j else f j := fun j => by rw [if_neg (by omega)]
theorem upd_step {f f' : Nat → Int32} {i N : Nat} {v : Nat → Int32} (hi : i < N) (h : ∀ j, f' j = if i + 1 ≤ j ∧ j < N then v j else upd f i (v i) j) : ∀ j, f' j = if i ≤ j ∧ j < N then v j else f j := fun j => by
  rw [h j]
  unfold upd
  by_cases h1 : j = i
  · subst h1; rw [if_neg (by omega), if_pos rfl, if_pos (by omega)]
  · rw [if_neg h1]
    by_cases h3 : i ≤ j ∧ j < N
    · rw [if_pos h3, if_pos (by omega)]
    · rw [if_neg h3, if_neg (by omega)]
theorem upd_stepL {f f' : Nat → Int64} {i N : Nat} {v : Nat → Int64} (hi : i < N) (h : ∀ j, f' j = if i + 1 ≤ j ∧ j < N then v j else vp_updL f i (v i) j) : ∀ j, f' j = if i ≤ j ∧ j < N then v j else f j := fun j => by
  rw [h j]
  unfold vp_updL
  by_cases h1 : j = i
  · subst h1; rw [if_neg (by omega), if_pos rfl, if_pos (by omega)]
  · rw [if_neg h1]
    by_cases h3 : i ≤ j ∧ j < N
    · rw [if_pos h3, if_pos (by omega)]
    · rw [if_neg h3, if_neg (by omega)]
theorem vp_nar_b (b : Bool) : vp_nar .boolean (b2i b) = b2i b := by cases b <;> rfl
theorem p_shl : ∀ n, n < 31 → (1 : Int32) <<< (nI n &&& 31) = nI (2 ^ n) := by decide +kernel
theorem n_neg_le {x : Int32} (h : x < 0) {k : Nat} (hk : k < 2147483648) : ¬ nI k ≤ x := fun z => by
  have h1 := Int32.lt_iff_toInt_lt.mp h
  have h2 := Int32.le_iff_toInt_le.mp z
  rw [nI_toInt hk] at h2
  have h3 : (0 : Int32).toInt = 0 := rfl
  omega
theorem n_neg_lt {x : Int32} (h : x < 0) {k : Nat} (hk : k < 2147483648) : x < nI k := by
  have h1 := Int32.lt_iff_toInt_lt.mp h
  apply Int32.lt_iff_toInt_lt.mpr
  rw [nI_toInt hk]
  have h3 : (0 : Int32).toInt = 0 := rfl
  omega
theorem n_sub {a b : Nat} (h : b ≤ a) : nI a - nI b = nI (a - b) := pk_sub h
theorem p_pow {n : Nat} (h : n ≤ 10) : 1 ≤ 2 ^ n ∧ 2 ^ n ≤ 1024 := by
  have h1 : 2 ^ n ≤ 2 ^ 10 := Nat.pow_le_pow_right (by decide) h
  exact ⟨Nat.one_le_two_pow, by simpa using h1⟩
-- class
theorem wa_pic_neg {x : Int32} (h : x < 0) (l : Int32) : f_Wa_hasPicture x l = some false := by
  unfold f_Wa_hasPicture; rw [if_pos h]
theorem wa_pic {j n : Nat} (hj : j < 2147483648) (hn : n ≤ 10) : f_Wa_hasPicture (nI j) (nI n) = some (decide (j < 2 ^ n)) := by
  have := p_pow hn
  unfold f_Wa_hasPicture
  rw [if_neg (nI_pos hj), p_shl n (by omega)]
  simp only [n_le (show 2 ^ n < 2147483648 by omega) hj]
  by_cases h : 2 ^ n ≤ j
  · rw [if_pos h]; simp [Nat.not_lt.mpr h]
  · rw [if_neg h]; simp [Nat.not_le.mp h]
theorem wa_lamp_neg {x : Int32} (h : x < 0) (l : Int32) : f_Wa_hasLamp x l = some false := by
  unfold f_Wa_hasLamp; rw [if_pos h]
theorem wa_lamp {j n : Nat} (hj : j < 2147483648) (hn : n ≤ 10) : f_Wa_hasLamp (nI j) (nI n) = some (decide (j < n)) := by
  unfold f_Wa_hasLamp
  rw [if_neg (nI_pos hj)]
  simp only [n_le (show n < 2147483648 by omega) hj]
  by_cases h : n ≤ j
  · rw [if_pos h]; simp [Nat.not_lt.mpr h]
  · rw [if_neg h, if_neg (by show ¬ nI 10 ≤ nI j; rw [n_le (by omega) hj]; omega)]; simp [Nat.not_le.mp h]
theorem wa_start {p : Nat} (hp : p < 1024) (a b c : Int32) (w : Nat → Int64) (la of : Nat → Int32) : ∃ w' la' of', f_Wa_startAt (nI p) a b c w la of = some (nI p, 0, 0, w', la', of') ∧ (∀ q, q < 1024 → bitw w' q = decide (q = p)) ∧ ∀ j, j < 10 → la' j = -2 ∧ of' j = 0 := by
  obtain ⟨w1, h1, g1⟩ := pi_empty w
  obtain ⟨w2, h2, g2⟩ := pi_add hp w1
  obtain ⟨l1, h3, g3⟩ := fillI (-2) la 10 (by omega)
  obtain ⟨o1, h4, g4⟩ := fillI 0 of 10 (by omega)
  refine ⟨w2, l1, o1, ?_, fun q hq => ?_, fun j hj => ?_⟩
  · unfold f_Wa_startAt
    rw [h1]; simp only [Option.bind_some]
    rw [h2]; simp only [Option.bind_some]
    rw [h3]; simp only [Option.bind_some]
    rw [h4]; rfl
  · rw [g2, g1 q hq, Bool.false_or]
  · rw [g3, g4, if_pos hj, if_pos hj]; exact ⟨rfl, rfl⟩
theorem wa_become (l1 p1 n1 s1 l0 p0 n0 s0 : Int32) (h0 h1 t0 t1 : Nat → Int64) (la1 la0 of1 of0 : Nat → Int32) : ∃ w t la of, f_Wa_become l1 p1 n1 s1 l0 p0 n0 s0 h0 h1 t0 t1 la1 la0 of1 of0 = some (l1, p1, n1, s1, w, t, la, of) ∧ (∀ q, q < 1024 → bitw w q = bitw h1 q ∧ bitw t q = bitw t1 q) ∧ ∀ j, j < 10 → la j = la1 j ∧ of j = of1 j := by
  obtain ⟨w, a1, a2⟩ := pi_become h0 h1
  obtain ⟨t, b1, b2⟩ := pi_become t0 t1
  refine ⟨w, t, va_cpy la1 la0 (Int32.toNatClampNeg 0) (Int32.toNatClampNeg 0) (Int32.toNatClampNeg 10), va_cpy of1 of0 (Int32.toNatClampNeg 0) (Int32.toNatClampNeg 0) (Int32.toNatClampNeg 10), ?_, fun q hq => ⟨a2 q hq, b2 q hq⟩, ?_⟩
  · unfold f_Wa_become
    rw [a1]; simp only [Option.bind_some]
    rw [b1]; simp only [Option.bind_some]
    rw [if_neg (by decide), if_neg (by decide)]
  · intro j hj
    unfold va_cpy
    rw [show Int32.toNatClampNeg 0 = 0 from rfl, show Int32.toNatClampNeg 10 = 10 from rfl, if_pos (by omega), if_pos (by omega)]
    simp
-- model
theorem mo_in (x a b : Int32) : f_Mo_in x a b = some (decide (a ≤ x ∧ x ≤ b)) := by
  unfold f_Mo_in
  by_cases h : x < a
  · rw [if_pos h]; simp [Int32.not_le.mpr h]
  · rw [if_neg h]
    by_cases h2 : b < x
    · rw [if_pos h2]; simp [Int32.not_le.mpr h2]
    · rw [if_neg h2]; simp [Int32.not_lt.mp h, Int32.not_lt.mp h2]
theorem mo_in_neg {x : Int32} (h : x < 0) (b : Int32) {a : Nat} (ha : a < 2147483648) : f_Mo_in x (nI a) b = some false := by
  unfold f_Mo_in; rw [if_pos (n_neg_lt h ha)]
theorem mo_in_n {j a b : Nat} (hj : j < 2147483648) (ha : a < 2147483648) (hb : b < 2147483648) : f_Mo_in (nI j) (nI a) (nI b) = some (decide (a ≤ j ∧ j ≤ b)) := by
  rw [mo_in]; simp only [n_le ha hj, n_le hj hb]
theorem mo_pics {n : Nat} (hn : n ≤ 10) : f_Mo_pictures (nI n) = some (nI (2 ^ n)) := by
  unfold f_Mo_pictures; rw [p_shl n (by omega)]
theorem mo_pic_neg {x : Int32} (h : x < 0) {n : Nat} (hn : n ≤ 10) : f_Mo_isPicture x (nI n) = some false := by
  unfold f_Mo_isPicture
  rw [mo_pics hn]; simp only [Option.bind_some]
  rw [show f_Mo_in x 0 (nI (2 ^ n) - 1) = some false from mo_in_neg (a := 0) h _ (by omega)]; rfl
theorem mo_pic {j n : Nat} (hj : j < 2147483648) (hn : n ≤ 10) : f_Mo_isPicture (nI j) (nI n) = some (decide (j < 2 ^ n)) := by
  have := p_pow hn
  unfold f_Mo_isPicture
  rw [mo_pics hn]; simp only [Option.bind_some]
  rw [show nI (2 ^ n) - 1 = nI (2 ^ n - 1) from n_sub (b := 1) (by omega)]
  rw [show f_Mo_in (nI j) 0 (nI (2 ^ n - 1)) = _ from mo_in_n (a := 0) hj (by omega) (by omega)]
  simp only [Option.bind_some]
  congr 1
  exact decide_eq_decide.mpr (by omega)
theorem mo_lamp_neg {x : Int32} (h : x < 0) (l : Int32) : f_Mo_isLamp x l = some false := by
  unfold f_Mo_isLamp
  rw [show f_Mo_in x 0 (l - 1) = some false from mo_in_neg (a := 0) h _ (by omega)]; rfl
theorem mo_lamp {j n : Nat} (hj : j < 2147483648) (h1 : 1 ≤ n) (hn : n ≤ 10) : f_Mo_isLamp (nI j) (nI n) = some (decide (j < n)) := by
  unfold f_Mo_isLamp
  rw [show nI n - 1 = nI (n - 1) from n_sub (b := 1) (by omega)]
  rw [show f_Mo_in (nI j) 0 (nI (n - 1)) = _ from mo_in_n (a := 0) hj (by omega) (by omega)]
  simp only [Option.bind_some]
  congr 1
  exact decide_eq_decide.mpr (by omega)
theorem mo_begin_L48 (at_ night spent : Int32) (hb : Bool) (had : Nat → Int32) : ∀ (d i fu : Nat) (la of : Nat → Int32), i + d = 10 → d < fu → ∃ la' of', f_Mo_beginAt_L48 fu (nI i) at_ night spent hb had la of = some (at_, night, spent, true, had, la', of') ∧ (∀ j, la' j = if i ≤ j ∧ j < 10 then -2 else la j) ∧ ∀ j, of' j = if i ≤ j ∧ j < 10 then 0 else of j := by
  intro d
  induction d with
  | zero =>
    intro i fu la of hi hfu
    obtain ⟨n, rfl⟩ : ∃ n, fu = n + 1 := ⟨fu - 1, by omega⟩
    obtain rfl : i = 10 := by omega
    exact ⟨la, of, by unfold f_Mo_beginAt_L48; rw [if_pos (by decide)], upd_base, upd_base⟩
  | succ d ih =>
    intro i fu la of hi hfu
    obtain ⟨n, rfl⟩ : ∃ n, fu = n + 1 := ⟨fu - 1, by omega⟩
    obtain ⟨la', of', h1, h2, h3⟩ := ih (i + 1) n (upd la i (-2)) (upd of i 0) (by omega) (by omega)
    refine ⟨la', of', ?_, upd_step (v := fun _ => -2) (by omega) h2, upd_step (v := fun _ => 0) (by omega) h3⟩
    unfold f_Mo_beginAt_L48
    rw [if_neg (by show ¬ nI 10 ≤ nI i; rw [n_le (by omega) (by omega)]; omega), if_neg (n_in (by omega) (by omega)), if_neg (n_in (by omega) (by omega)), n_cl (by omega), nI_1]
    exact h1
theorem mo_begin_L17 {p : Nat} (hp : p < 2147483648) (at_ night spent : Int32) (hb : Bool) (la of : Nat → Int32) : ∀ (d i fu : Nat) (had : Nat → Int32), i + d = 1024 → d < fu → ∃ had', f_Mo_beginAt_L17 fu (nI p) (nI i) at_ night spent hb had la of = f_Mo_beginAt_L48 3000 0 at_ night spent hb had' la of ∧ (∀ j, had' j = if i ≤ j ∧ j < 1024 then b2i (decide (j = p)) else had j) := by
  intro d
  induction d with
  | zero =>
    intro i fu had hi hfu
    obtain ⟨n, rfl⟩ : ∃ n, fu = n + 1 := ⟨fu - 1, by omega⟩
    obtain rfl : i = 1024 := by omega
    exact ⟨had, by unfold f_Mo_beginAt_L17; rw [if_pos (by decide)], upd_base⟩
  | succ d ih =>
    intro i fu had hi hfu
    obtain ⟨n, rfl⟩ : ∃ n, fu = n + 1 := ⟨fu - 1, by omega⟩
    obtain ⟨had', h1, h2⟩ := ih (i + 1) n (upd had i (b2i (decide (i = p)))) (by omega) (by omega)
    refine ⟨had', ?_, upd_step (v := fun j => b2i (decide (j = p))) (by omega) h2⟩
    unfold f_Mo_beginAt_L17
    rw [if_neg (by show ¬ nI 1024 ≤ nI i; rw [n_le (by omega) (by omega)]; omega)]
    simp only [n_eq (show i < 2147483648 by omega) hp]
    by_cases h : i = p
    · rw [if_pos h]
      unfold f_Mo_beginAt_L39
      rw [if_neg (n_in (by omega) (by omega)), n_cl (by omega), nI_1, vp_nar_b]
      rw [← h1]; simp [h]
    · rw [if_neg h]
      unfold f_Mo_beginAt_L39
      rw [if_neg (n_in (by omega) (by omega)), n_cl (by omega), nI_1, vp_nar_b]
      rw [← h1]; simp [h]
theorem mo_begin {p : Nat} (hp : p < 2147483648) (a b c : Int32) (hb : Bool) (had la of : Nat → Int32) : ∃ had' la' of', f_Mo_beginAt (nI p) a b c hb had la of = some (nI p, 0, 0, true, had', la', of') ∧ (∀ q, q < 1024 → had' q = b2i (decide (q = p))) ∧ ∀ j, j < 10 → la' j = -2 ∧ of' j = 0 := by
  obtain ⟨had', h1, h2⟩ := mo_begin_L17 hp (nI p) 0 0 hb la of 1024 0 3000 had (by omega) (by omega)
  obtain ⟨la', of', h3, h4, h5⟩ := mo_begin_L48 (nI p) 0 0 hb had' 10 0 3000 la of (by omega) (by omega)
  refine ⟨had', la', of', ?_, fun q hq => by rw [h2, if_pos (by omega)], fun j hj => by rw [h4, h5, if_pos (by omega), if_pos (by omega)]; exact ⟨rfl, rfl⟩⟩
  unfold f_Mo_beginAt
  exact h1.trans h3
