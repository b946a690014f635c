/-! PURE: free pictures to which free ones lead, and how many nights through them there are at most -/
theorem lit_21845 : (21845 : Int32) = nI 21845 := rfl
theorem lit_13107 : (13107 : Int32) = nI 13107 := rfl
theorem lit_3855 : (3855 : Int32) = nI 3855 := rfl
theorem lit_38505 : (38505 : Int32) = nI 38505 := rfl
theorem lit_38506 : (-38506 : Int32) = nI 4294928790 := by decide
theorem lit_m1 : (-1 : Int32) = nI 4294967295 := by decide
def besN (x : Nat) : Nat := (((((((x &&& 21845) * 2 ||| (x / 2 &&& 21845)) ||| (x &&& 13107) * 4) ||| (x / 4 &&& 13107)) ||| (x &&& 3855) * 16) ||| (x / 16 &&& 3855)) ||| (x &&& 255) * 256) ||| (x / 256 &&& 255)
theorem sh_l {a k p : Nat} (hp : 2 ^ k = p) (hk : k < 31) (h : a * p < 4294967296) : nI a <<< (nI k &&& nI 31) = nI (a * p) := by
  subst hp; exact n_shl hk h
theorem sh_r {a k p : Nat} (hp : 2 ^ k = p) (hk : k < 31) (h : a < 2147483648) : nI a >>> (nI k &&& nI 31) = nI (a / p) := by
  subst hp; exact n_shr h hk
theorem and_lt {a b c : Nat} (h : b < c) : a &&& b < c := Nat.lt_of_le_of_lt Nat.and_le_right h
theorem th_besides {x : Nat} (hx : x < 65536) : f_Th_besides (nI x) = some (nI (besN x)) := by
  have h1 : x &&& 21845 < 21846 := and_lt (by decide)
  have h2 : x &&& 13107 < 13108 := and_lt (by decide)
  have h3 : x &&& 3855 < 3856 := and_lt (by decide)
  have h4 : x &&& 255 < 256 := and_lt (by decide)
  unfold f_Th_besides besN
  rw [lit_21845, lit_13107, lit_3855, lit_255, lit_1, lit_2, lit_4, lit_8, lit_31]
  rw [sh_r (a := x) (k := 1) (p := 2) rfl (by omega) (by omega), sh_r (a := x) (k := 2) (p := 4) rfl (by omega) (by omega), sh_r (a := x) (k := 4) (p := 16) rfl (by omega) (by omega), sh_r (a := x) (k := 8) (p := 256) rfl (by omega) (by omega)]
  rw [fa_and x 21845, fa_and (x / 2) 21845, fa_and x 13107, fa_and (x / 4) 13107, fa_and x 3855, fa_and (x / 16) 3855, fa_and x 255, fa_and (x / 256) 255]
  rw [sh_l (a := x &&& 21845) (k := 1) (p := 2) rfl (by omega) (by omega), sh_l (a := x &&& 13107) (k := 2) (p := 4) rfl (by omega) (by omega), sh_l (a := x &&& 3855) (k := 4) (p := 16) rfl (by omega) (by omega), sh_l (a := x &&& 255) (k := 8) (p := 256) rfl (by omega) (by omega)]
  simp only [fa_or]
theorem tb_mul (a k p q : Nat) (hp : 2 ^ k = p) : (a * p).testBit q = (decide (k ≤ q) && a.testBit (q - k)) := by
  subst hp
  rw [← Nat.shiftLeft_eq, Nat.testBit_shiftLeft]
theorem tb_div (a k p q : Nat) (hp : 2 ^ k = p) : (a / p).testBit q = a.testBit (q + k) := by
  subst hp; exact Nat.testBit_div_two_pow a q
theorem bes_raw (x q : Nat) : (besN x).testBit q = ((((((((decide (1 ≤ q) && (x.testBit (q - 1) && (21845 : Nat).testBit (q - 1))) || (x.testBit (q + 1) && (21845 : Nat).testBit q)) || (decide (2 ≤ q) && (x.testBit (q - 2) && (13107 : Nat).testBit (q - 2)))) || (x.testBit (q + 2) && (13107 : Nat).testBit q)) || (decide (4 ≤ q) && (x.testBit (q - 4) && (3855 : Nat).testBit (q - 4)))) || (x.testBit (q + 4) && (3855 : Nat).testBit q)) || (decide (8 ≤ q) && (x.testBit (q - 8) && (255 : Nat).testBit (q - 8)))) || (x.testBit (q + 8) && (255 : Nat).testBit q)) := by
  unfold besN
  rw [Nat.testBit_or, Nat.testBit_or, Nat.testBit_or, Nat.testBit_or, Nat.testBit_or, Nat.testBit_or, Nat.testBit_or, tb_mul _ 1 2 q rfl, tb_mul _ 2 4 q rfl, tb_mul _ 4 16 q rfl, tb_mul _ 8 256 q rfl]
  rw [Nat.testBit_and, Nat.testBit_and, Nat.testBit_and, Nat.testBit_and, Nat.testBit_and, Nat.testBit_and, Nat.testBit_and, Nat.testBit_and, tb_div _ 1 2 q rfl, tb_div _ 2 4 q rfl, tb_div _ 4 16 q rfl, tb_div _ 8 256 q rfl]
/-- beside one of x: so it is in besN x -/
theorem bes_in {x q : Nat} (hq : q < 16) : ∀ l, l < 4 → x.testBit (q ^^^ 2 ^ l) = true → (besN x).testBit q = true := by
  intro l hl h
  rw [bes_raw]
  match q, hq, l, hl, h with
  | 0, _, 0, _, h => have h2 : x.testBit 1 = true := h; simp [h2, show Nat.testBit 21845 0 = true from by decide]
  | 0, _, 1, _, h => have h2 : x.testBit 2 = true := h; simp [h2, show Nat.testBit 13107 0 = true from by decide]
  | 0, _, 2, _, h => have h2 : x.testBit 4 = true := h; simp [h2, show Nat.testBit 3855 0 = true from by decide]
  | 0, _, 3, _, h => have h2 : x.testBit 8 = true := h; simp [h2, show Nat.testBit 255 0 = true from by decide]
  | 1, _, 0, _, h => have h2 : x.testBit 0 = true := h; simp [h2, show Nat.testBit 21845 0 = true from by decide]
  | 1, _, 1, _, h => have h2 : x.testBit 3 = true := h; simp [h2, show Nat.testBit 13107 1 = true from by decide]
  | 1, _, 2, _, h => have h2 : x.testBit 5 = true := h; simp [h2, show Nat.testBit 3855 1 = true from by decide]
  | 1, _, 3, _, h => have h2 : x.testBit 9 = true := h; simp [h2, show Nat.testBit 255 1 = true from by decide]
  | 2, _, 0, _, h => have h2 : x.testBit 3 = true := h; simp [h2, show Nat.testBit 21845 2 = true from by decide]
  | 2, _, 1, _, h => have h2 : x.testBit 0 = true := h; simp [h2, show Nat.testBit 13107 0 = true from by decide]
  | 2, _, 2, _, h => have h2 : x.testBit 6 = true := h; simp [h2, show Nat.testBit 3855 2 = true from by decide]
  | 2, _, 3, _, h => have h2 : x.testBit 10 = true := h; simp [h2, show Nat.testBit 255 2 = true from by decide]
  | 3, _, 0, _, h => have h2 : x.testBit 2 = true := h; simp [h2, show Nat.testBit 21845 2 = true from by decide]
  | 3, _, 1, _, h => have h2 : x.testBit 1 = true := h; simp [h2, show Nat.testBit 13107 1 = true from by decide]
  | 3, _, 2, _, h => have h2 : x.testBit 7 = true := h; simp [h2, show Nat.testBit 3855 3 = true from by decide]
  | 3, _, 3, _, h => have h2 : x.testBit 11 = true := h; simp [h2, show Nat.testBit 255 3 = true from by decide]
  | 4, _, 0, _, h => have h2 : x.testBit 5 = true := h; simp [h2, show Nat.testBit 21845 4 = true from by decide]
  | 4, _, 1, _, h => have h2 : x.testBit 6 = true := h; simp [h2, show Nat.testBit 13107 4 = true from by decide]
  | 4, _, 2, _, h => have h2 : x.testBit 0 = true := h; simp [h2, show Nat.testBit 3855 0 = true from by decide]
  | 4, _, 3, _, h => have h2 : x.testBit 12 = true := h; simp [h2, show Nat.testBit 255 4 = true from by decide]
  | 5, _, 0, _, h => have h2 : x.testBit 4 = true := h; simp [h2, show Nat.testBit 21845 4 = true from by decide]
  | 5, _, 1, _, h => have h2 : x.testBit 7 = true := h; simp [h2, show Nat.testBit 13107 5 = true from by decide]
  | 5, _, 2, _, h => have h2 : x.testBit 1 = true := h; simp [h2, show Nat.testBit 3855 1 = true from by decide]
  | 5, _, 3, _, h => have h2 : x.testBit 13 = true := h; simp [h2, show Nat.testBit 255 5 = true from by decide]
  | 6, _, 0, _, h => have h2 : x.testBit 7 = true := h; simp [h2, show Nat.testBit 21845 6 = true from by decide]
  | 6, _, 1, _, h => have h2 : x.testBit 4 = true := h; simp [h2, show Nat.testBit 13107 4 = true from by decide]
  | 6, _, 2, _, h => have h2 : x.testBit 2 = true := h; simp [h2, show Nat.testBit 3855 2 = true from by decide]
  | 6, _, 3, _, h => have h2 : x.testBit 14 = true := h; simp [h2, show Nat.testBit 255 6 = true from by decide]
  | 7, _, 0, _, h => have h2 : x.testBit 6 = true := h; simp [h2, show Nat.testBit 21845 6 = true from by decide]
  | 7, _, 1, _, h => have h2 : x.testBit 5 = true := h; simp [h2, show Nat.testBit 13107 5 = true from by decide]
  | 7, _, 2, _, h => have h2 : x.testBit 3 = true := h; simp [h2, show Nat.testBit 3855 3 = true from by decide]
  | 7, _, 3, _, h => have h2 : x.testBit 15 = true := h; simp [h2, show Nat.testBit 255 7 = true from by decide]
  | 8, _, 0, _, h => have h2 : x.testBit 9 = true := h; simp [h2, show Nat.testBit 21845 8 = true from by decide]
  | 8, _, 1, _, h => have h2 : x.testBit 10 = true := h; simp [h2, show Nat.testBit 13107 8 = true from by decide]
  | 8, _, 2, _, h => have h2 : x.testBit 12 = true := h; simp [h2, show Nat.testBit 3855 8 = true from by decide]
  | 8, _, 3, _, h => have h2 : x.testBit 0 = true := h; simp [h2, show Nat.testBit 255 0 = true from by decide]
  | 9, _, 0, _, h => have h2 : x.testBit 8 = true := h; simp [h2, show Nat.testBit 21845 8 = true from by decide]
  | 9, _, 1, _, h => have h2 : x.testBit 11 = true := h; simp [h2, show Nat.testBit 13107 9 = true from by decide]
  | 9, _, 2, _, h => have h2 : x.testBit 13 = true := h; simp [h2, show Nat.testBit 3855 9 = true from by decide]
  | 9, _, 3, _, h => have h2 : x.testBit 1 = true := h; simp [h2, show Nat.testBit 255 1 = true from by decide]
  | 10, _, 0, _, h => have h2 : x.testBit 11 = true := h; simp [h2, show Nat.testBit 21845 10 = true from by decide]
  | 10, _, 1, _, h => have h2 : x.testBit 8 = true := h; simp [h2, show Nat.testBit 13107 8 = true from by decide]
  | 10, _, 2, _, h => have h2 : x.testBit 14 = true := h; simp [h2, show Nat.testBit 3855 10 = true from by decide]
  | 10, _, 3, _, h => have h2 : x.testBit 2 = true := h; simp [h2, show Nat.testBit 255 2 = true from by decide]
  | 11, _, 0, _, h => have h2 : x.testBit 10 = true := h; simp [h2, show Nat.testBit 21845 10 = true from by decide]
  | 11, _, 1, _, h => have h2 : x.testBit 9 = true := h; simp [h2, show Nat.testBit 13107 9 = true from by decide]
  | 11, _, 2, _, h => have h2 : x.testBit 15 = true := h; simp [h2, show Nat.testBit 3855 11 = true from by decide]
  | 11, _, 3, _, h => have h2 : x.testBit 3 = true := h; simp [h2, show Nat.testBit 255 3 = true from by decide]
  | 12, _, 0, _, h => have h2 : x.testBit 13 = true := h; simp [h2, show Nat.testBit 21845 12 = true from by decide]
  | 12, _, 1, _, h => have h2 : x.testBit 14 = true := h; simp [h2, show Nat.testBit 13107 12 = true from by decide]
  | 12, _, 2, _, h => have h2 : x.testBit 8 = true := h; simp [h2, show Nat.testBit 3855 8 = true from by decide]
  | 12, _, 3, _, h => have h2 : x.testBit 4 = true := h; simp [h2, show Nat.testBit 255 4 = true from by decide]
  | 13, _, 0, _, h => have h2 : x.testBit 12 = true := h; simp [h2, show Nat.testBit 21845 12 = true from by decide]
  | 13, _, 1, _, h => have h2 : x.testBit 15 = true := h; simp [h2, show Nat.testBit 13107 13 = true from by decide]
  | 13, _, 2, _, h => have h2 : x.testBit 9 = true := h; simp [h2, show Nat.testBit 3855 9 = true from by decide]
  | 13, _, 3, _, h => have h2 : x.testBit 5 = true := h; simp [h2, show Nat.testBit 255 5 = true from by decide]
  | 14, _, 0, _, h => have h2 : x.testBit 15 = true := h; simp [h2, show Nat.testBit 21845 14 = true from by decide]
  | 14, _, 1, _, h => have h2 : x.testBit 12 = true := h; simp [h2, show Nat.testBit 13107 12 = true from by decide]
  | 14, _, 2, _, h => have h2 : x.testBit 10 = true := h; simp [h2, show Nat.testBit 3855 10 = true from by decide]
  | 14, _, 3, _, h => have h2 : x.testBit 6 = true := h; simp [h2, show Nat.testBit 255 6 = true from by decide]
  | 15, _, 0, _, h => have h2 : x.testBit 14 = true := h; simp [h2, show Nat.testBit 21845 14 = true from by decide]
  | 15, _, 1, _, h => have h2 : x.testBit 13 = true := h; simp [h2, show Nat.testBit 13107 13 = true from by decide]
  | 15, _, 2, _, h => have h2 : x.testBit 11 = true := h; simp [h2, show Nat.testBit 3855 11 = true from by decide]
  | 15, _, 3, _, h => have h2 : x.testBit 7 = true := h; simp [h2, show Nat.testBit 255 7 = true from by decide]
  | q + 16, hq, l, hl, h => exact absurd hq (by omega)
  | 0, _, l + 4, hl, h => exact absurd hl (by omega)
  | 1, _, l + 4, hl, h => exact absurd hl (by omega)
  | 2, _, l + 4, hl, h => exact absurd hl (by omega)
  | 3, _, l + 4, hl, h => exact absurd hl (by omega)
  | 4, _, l + 4, hl, h => exact absurd hl (by omega)
  | 5, _, l + 4, hl, h => exact absurd hl (by omega)
  | 6, _, l + 4, hl, h => exact absurd hl (by omega)
  | 7, _, l + 4, hl, h => exact absurd hl (by omega)
  | 8, _, l + 4, hl, h => exact absurd hl (by omega)
  | 9, _, l + 4, hl, h => exact absurd hl (by omega)
  | 10, _, l + 4, hl, h => exact absurd hl (by omega)
  | 11, _, l + 4, hl, h => exact absurd hl (by omega)
  | 12, _, l + 4, hl, h => exact absurd hl (by omega)
  | 13, _, l + 4, hl, h => exact absurd hl (by omega)
  | 14, _, l + 4, hl, h => exact absurd hl (by omega)
  | 15, _, l + 4, hl, h => exact absurd hl (by omega)
theorem fb_ct_lt {p q : Nat → Bool} {n k : Nat} (h : ∀ i, i < n → p i = true → q i = true) (hk : k < n) (h1 : p k = false) (h2 : q k = true) : fb_ct p n + 1 ≤ fb_ct q n := by
  have e := fb_ct_upd p true hk
  rw [h1] at e
  have e2 : fb_ct (fun i => if i = k then true else p i) n ≤ fb_ct q n := fb_ct_sub (fun i hi hp => by
    by_cases c : i = k
    · rw [c]; exact h2
    · simp only [c, if_false] at hp; exact h i hi hp)
  simp only [Bool.false_eq_true, if_false, if_true] at e
  omega
/-- a set of free pictures that nothing free beside it leaves -/
def good (n p : Nat) (H B R : Nat → Bool) : Prop := (∀ l, l < n → H (p ^^^ 2 ^ l) = false → B (p ^^^ 2 ^ l) = false → R (p ^^^ 2 ^ l) = true) ∧ ∀ x, x < 2 ^ n → R x = true → ∀ l, l < n → H (x ^^^ 2 ^ l) = false → B (x ^^^ 2 ^ l) = false → R (x ^^^ 2 ^ l) = true
theorem pic_sixteen {w : Nat → Int64} : ∃ h, f_Pi_firstSixteen w = some (nI h) ∧ h < 65536 ∧ ∀ q, q < 16 → h.testBit q = bitw w q := by
  obtain ⟨m, hm, e⟩ := wb_of (w 0)
  refine ⟨m &&& 65535, ?_, and_lt (by decide), fun q hq => ?_⟩
  · unfold f_Pi_firstSixteen
    rw [show Int32.toNatClampNeg (0 : Int32) = 0 from rfl, e, show (65535 : Int64) = lN 65535 from rfl, fb_andL, lN_i]
  · rw [Nat.testBit_and, show (65535 : Nat) = 2 ^ 16 - 1 from rfl, Nat.testBit_two_pow_sub_one]
    unfold bitw
    rw [show q / 64 = 0 by omega, show q % 64 = q by omega, e]
    show _ = (lN m).toBitVec.toNat.testBit q
    rw [wb_tn hm]
    simp [hq]
theorem not_bit {h q : Nat} (hh : h < 65536) (hq : q < 32) : (h ^^^ 4294967295).testBit q = !h.testBit q := by
  rw [Nat.testBit_xor, show (4294967295 : Nat) = 2 ^ 32 - 1 from rfl, Nat.testBit_two_pow_sub_one]
  simp [hq]
theorem lt_bits {x n : Nat} (h : ∀ i, n ≤ i → x.testBit i = false) : x < 2 ^ n := Nat.lt_pow_two_of_testBit x h
theorem th_reach {n p : Nat} {H B : Nat → Bool} {w : Nat → Int64} (hn1 : 1 ≤ n) (hn : n ≤ 4) (hp : p < 2 ^ n) (hH : ∀ q, q < 1024 → bitw w q = H q) (hpH : H p = true) {o : Nat} (ho : ∀ i, o.testBit i = (decide (i < 2 ^ n) && !B i)) : ∃ r, f_Th_reachable (nI o) (nI p) w = some (nI r) ∧ r < 65536 ∧ good n p H B (fun q => r.testBit q) := by
  have h16 : 2 ^ n ≤ 2 ^ 4 := Nat.pow_le_pow_right (by decide) hn
  obtain ⟨h, e1, hh, hb⟩ := pic_sixteen (w := w)
  obtain ⟨f, hf⟩ : ∃ f, f = o &&& (h ^^^ 4294967295) := ⟨_, rfl⟩
  have fbit : ∀ q, q < 16 → f.testBit q = (decide (q < 2 ^ n) && !B q && !H q) := by
    intro q hq
    rw [hf, Nat.testBit_and, ho, not_bit hh (by omega), hb q hq, hH q (by omega)]
  have fout : ∀ q, 16 ≤ q → f.testBit q = false := by
    intro q hq
    rw [hf, Nat.testBit_and, ho]
    simp [show ¬ q < 2 ^ n by omega]
  have hf16 : f < 65536 := lt_bits (n := 16) fout
  have loop : ∀ (e k fu v : Nat), k + e = 15 → e < fu → (∀ q, v.testBit q = true → f.testBit q = true) → (v = 0 ∨ k + 1 ≤ fb_ct (fun q => v.testBit q) 16) → (∀ l, l < n → H (p ^^^ 2 ^ l) = false → B (p ^^^ 2 ^ l) = false → v.testBit (p ^^^ 2 ^ l) = true) → ∃ r, f_Th_reachable_L35 fu (nI f) (nI v) (nI k) = some (nI r) ∧ r < 65536 ∧ good n p H B (fun q => r.testBit q) := by
    intro e
    induction e with
    | zero =>
      intro k fu v hk hfu hsub hct hgo
      obtain ⟨g, rfl⟩ : ∃ g, fu = g + 1 := ⟨fu - 1, by omega⟩
      have hv : v < 65536 := lt_bits (n := 16) (fun i hi => by
        cases c : v.testBit i with
        | false => rfl
        | true => have := hsub i c; rw [fout i hi] at this; cases this)
      refine ⟨v, ?_, hv, hgo, fun x hx hxR l hl h1 h2 => ?_⟩
      · rw [f_Th_reachable_L35]
        simp (disch := omega) only [n_lt, n_le, n_eq, n_cl, n_sub, nI_add, pk_mul, n_subL, n_Lsub, n_neN, n_Nne, n_leN, n_ltN, n_Nlt, n_Nle, le_T, le_F, lt_T, lt_F, eq_T, eq_F, true_or, or_true, false_or, or_false, true_and, and_true, false_and, and_false, and_self, or_self, not_true_eq_false, not_false_eq_true, decide_eq_true_eq, decide_true, decide_false, Bool.false_eq_true, Bool.true_eq_false, eq_self, ↓reduceIte, Option.bind_some, mo_in, lit_0, lit_1, lit_2, lit_3, lit_4, lit_5, lit_6, lit_7, lit_8, lit_9, lit_10, lit_11, lit_12, lit_13, lit_14, lit_15, lit_16, lit_20, lit_22, lit_24, lit_28, lit_30, lit_31, lit_32, lit_39, lit_40, lit_42, lit_48, lit_50, lit_57, lit_60, lit_61, lit_62, lit_63, lit_64, lit_100, lit_120, lit_121, lit_122, lit_128, lit_130, lit_255, lit_256, lit_360, lit_1024, lit_2147483647, m1_pred, Nat.add_sub_cancel, lit_124, lit_38, lit_37, lit_33, lit_126, lit_59, lit_112, lit_108, lit_110, lit_104, lit_47, lit_43, lit_45, lit_41, lit_123, lit_49, lit_58, lit_68]
      · rcases hct with rfl | hct
        · simp at hxR
        · -- sixteen of sixteen: but p itself is not free
          have hle := fb_ct_le (fun q => v.testBit q) 16
          have hall := fb_ct_all.mp (show fb_ct (fun q => v.testBit q) 16 = 16 by omega) p (by omega)
          have := hsub p hall
          rw [fbit p (by omega), hpH] at this
          simp at this
    | succ e ih =>
      intro k fu v hk hfu hsub hct hgo
      obtain ⟨g, rfl⟩ : ∃ g, fu = g + 1 := ⟨fu - 1, by omega⟩
      have hv : v < 65536 := lt_bits (n := 16) (fun i hi => by
        cases c : v.testBit i with
        | false => rfl
        | true => have := hsub i c; rw [fout i hi] at this; cases this)
      have e2 := th_besides hv
      have hnew : ∀ q, ((v ||| besN v) &&& f).testBit q = ((v.testBit q || (besN v).testBit q) && f.testBit q) := fun q => by rw [Nat.testBit_and, Nat.testBit_or]
      have hnf : (v ||| besN v) &&& f < 65536 := Nat.lt_of_le_of_lt Nat.and_le_right hf16
      by_cases c : (v ||| besN v) &&& f = v
      · refine ⟨v, ?_, hv, hgo, fun x hx hxR l hl h1 h2 => ?_⟩
        · rw [f_Th_reachable_L35]
          simp (disch := omega) only [n_lt, n_le, n_eq, n_cl, n_sub, nI_add, pk_mul, n_subL, n_Lsub, n_neN, n_Nne, n_leN, n_ltN, n_Nlt, n_Nle, le_T, le_F, lt_T, lt_F, eq_T, eq_F, true_or, or_true, false_or, or_false, true_and, and_true, false_and, and_false, and_self, or_self, not_true_eq_false, not_false_eq_true, decide_eq_true_eq, decide_true, decide_false, Bool.false_eq_true, Bool.true_eq_false, eq_self, ↓reduceIte, Option.bind_some, mo_in, lit_0, lit_1, lit_2, lit_3, lit_4, lit_5, lit_6, lit_7, lit_8, lit_9, lit_10, lit_11, lit_12, lit_13, lit_14, lit_15, lit_16, lit_20, lit_22, lit_24, lit_28, lit_30, lit_31, lit_32, lit_39, lit_40, lit_42, lit_48, lit_50, lit_57, lit_60, lit_61, lit_62, lit_63, lit_64, lit_100, lit_120, lit_121, lit_122, lit_128, lit_130, lit_255, lit_256, lit_360, lit_1024, lit_2147483647, m1_pred, Nat.add_sub_cancel, lit_124, lit_38, lit_37, lit_33, lit_126, lit_59, lit_112, lit_108, lit_110, lit_104, lit_47, lit_43, lit_45, lit_41, lit_123, lit_49, lit_58, lit_68, e2, fa_or, fa_and, c]
        · have hq := x_lt (l := l) hx hl
          have hb2 := bes_in (x := v) (q := x ^^^ 2 ^ l) (by omega) l (by omega) (by rw [x_back]; exact hxR)
          have h3 := hnew (x ^^^ 2 ^ l)
          rw [c, hb2, fbit _ (by omega), h1, h2] at h3
          simp [hq] at h3
          exact h3
      · obtain ⟨r, d1, d2, d3⟩ := ih (k + 1) g ((v ||| besN v) &&& f) (by omega) (by omega) (fun q hq => by rw [hnew] at hq; simp at hq; exact hq.2) (by
          right
          have hex : ∃ i, i < 16 ∧ v.testBit i = false ∧ ((v ||| besN v) &&& f).testBit i = true := by
            by_cases hx : ∃ i, i < 16 ∧ v.testBit i = false ∧ ((v ||| besN v) &&& f).testBit i = true
            · exact hx
            · exfalso
              apply c
              apply Nat.eq_of_testBit_eq
              intro i
              by_cases hi : i < 16
              · cases c1 : v.testBit i with
                | true => rw [hnew, c1, hsub i c1]; rfl
                | false =>
                  cases c2 : ((v ||| besN v) &&& f).testBit i with
                  | false => rfl
                  | true => exact absurd ⟨i, hi, c1, c2⟩ hx
              · rw [hnew, fout i (by omega)]
                cases c1 : v.testBit i with
                | false => simp
                | true => have := hsub i c1; rw [fout i (by omega)] at this; cases this
          obtain ⟨i, hi, c1, c2⟩ := hex
          have hlt := fb_ct_lt (p := fun q => v.testBit q) (q := fun q => ((v ||| besN v) &&& f).testBit q) (n := 16) (k := i) (fun j hj hv => by
            have hv' : v.testBit j = true := hv
            show ((v ||| besN v) &&& f).testBit j = true
            rw [hnew, hv', hsub j hv']; rfl) hi c1 c2
          rcases hct with rfl | hct
          · exfalso
            have hz : (0 ||| besN 0) &&& f = 0 := by
              rw [show besN 0 = 0 from rfl]; simp
            exact c hz
          · omega) (fun l hl h1 h2 => by
          have hq := x_lt (l := l) hp hl
          rw [hnew, hgo l hl h1 h2, fbit _ (by omega), h1, h2]
          simp [hq])
        refine ⟨r, ?_, d2, d3⟩
        rw [← d1, f_Th_reachable_L35]
        simp (disch := omega) only [n_lt, n_le, n_eq, n_cl, n_sub, nI_add, pk_mul, n_subL, n_Lsub, n_neN, n_Nne, n_leN, n_ltN, n_Nlt, n_Nle, le_T, le_F, lt_T, lt_F, eq_T, eq_F, true_or, or_true, false_or, or_false, true_and, and_true, false_and, and_false, and_self, or_self, not_true_eq_false, not_false_eq_true, decide_eq_true_eq, decide_true, decide_false, Bool.false_eq_true, Bool.true_eq_false, eq_self, ↓reduceIte, Option.bind_some, mo_in, lit_0, lit_1, lit_2, lit_3, lit_4, lit_5, lit_6, lit_7, lit_8, lit_9, lit_10, lit_11, lit_12, lit_13, lit_14, lit_15, lit_16, lit_20, lit_22, lit_24, lit_28, lit_30, lit_31, lit_32, lit_39, lit_40, lit_42, lit_48, lit_50, lit_57, lit_60, lit_61, lit_62, lit_63, lit_64, lit_100, lit_120, lit_121, lit_122, lit_128, lit_130, lit_255, lit_256, lit_360, lit_1024, lit_2147483647, m1_pred, Nat.add_sub_cancel, lit_124, lit_38, lit_37, lit_33, lit_126, lit_59, lit_112, lit_108, lit_110, lit_104, lit_47, lit_43, lit_45, lit_41, lit_123, lit_49, lit_58, lit_68, e2, fa_or, fa_and, c]
  have h2p : 2 ^ p < 65536 := Nat.pow_lt_pow_right (n := 16) (by decide) (by omega)
  have e3 := th_besides h2p
  have hin : ∀ q, (besN (2 ^ p) &&& f).testBit q = ((besN (2 ^ p)).testBit q && f.testBit q) := fun q => Nat.testBit_and _ _ _
  obtain ⟨r, d1, d2, d3⟩ := loop 15 0 3000 (besN (2 ^ p) &&& f) (by omega) (by omega) (fun q hq => by rw [hin] at hq; simp at hq; exact hq.2) (by
    by_cases c : besN (2 ^ p) &&& f = 0
    · exact Or.inl c
    · right
      have hz : ¬ fb_ct (fun q => (besN (2 ^ p) &&& f).testBit q) 16 = 0 := fun z => c (by
        apply Nat.eq_of_testBit_eq
        intro i
        rw [Nat.zero_testBit]
        by_cases hi : i < 16
        · exact fb_ct_zero.mp z i hi
        · rw [hin, fout i (by omega), Bool.and_false])
      omega) (fun l hl h1 h2 => by
    have hq := x_lt (l := l) hp hl
    have hb2 := bes_in (x := 2 ^ p) (q := p ^^^ 2 ^ l) (by omega) l (by omega) (by rw [x_back]; exact Nat.testBit_two_pow_self)
    rw [hin, hb2, fbit _ (by omega), h1, h2]
    simp [hq])
  refine ⟨r, ?_, d2, d3⟩
  rw [← d1, f_Th_reachable, e1, Option.bind_some, lit_m1, fb_xorI, fa_and, ← hf, show (1 : Int32) <<< (nI p &&& 31) = nI (2 ^ p) from q_shl (by omega), e3, Option.bind_some, fa_and]
  rfl
/-! how many nights through R there are at most -/
def par (q : Nat) : Bool := decide (lw_bits q 10 % 2 = 0)
theorem par_mask : ∀ q, q < 16 → (38505 : Nat).testBit q = par q ∧ (4294928790 : Nat).testBit q = !par q := by decide +kernel
theorem par_flip : ∀ q, q < 16 → ∀ l, l < 4 → par (q ^^^ 2 ^ l) = !par q := by decide +kernel
def cnt (R : Nat → Bool) (e : Bool) : Nat := fb_ct (fun q => R q && (par q == e)) 16
def mst (u l : Nat) : Nat := if l < u then 2 * l + 1 else 2 * u
theorem bits_16 {x : Nat} (hx : x < 65536) : lw_bits x 32 = fb_ct (fun q => x.testBit q) 16 := by
  rw [lw_bits_ct, show (32 : Nat) = 16 + 16 from rfl, fb_ct_split]
  have : fb_ct (fun k => x.testBit (16 + k)) 16 = 0 := fb_ct_zero.mpr (fun k hk => Nat.testBit_lt_two_pow (Nat.lt_of_lt_of_le hx (Nat.pow_le_pow_right (n := 2) (i := 16) (by decide) (by omega))))
  omega
theorem th_most {r p : Nat} (hr : r < 65536) (hp : p < 16) : f_Th_mostNightsThrough (nI r) (nI p) = some (nI (mst (cnt (fun q => r.testBit q) (!par p)) (cnt (fun q => r.testBit q) (par p)))) := by
  have h1 : r &&& 38505 < 65536 := Nat.lt_of_le_of_lt Nat.and_le_left hr
  have h2 : r &&& 4294928790 < 65536 := Nat.lt_of_le_of_lt Nat.and_le_left hr
  have e1 := ji_count (n := r &&& 38505) (by omega)
  have e2 := ji_count (n := r &&& 4294928790) (by omega)
  have e3 := ji_count (n := p) (by omega)
  rw [bits_16 h1] at e1
  rw [bits_16 h2] at e2
  rw [bits_10 p (by omega)] at e3
  have c1 : fb_ct (fun q => (r &&& 38505).testBit q) 16 = cnt (fun q => r.testBit q) true := fb_ct_cong (fun q hq => by rw [Nat.testBit_and, (par_mask q hq).1]; cases par q <;> simp)
  have c2 : fb_ct (fun q => (r &&& 4294928790).testBit q) 16 = cnt (fun q => r.testBit q) false := fb_ct_cong (fun q hq => by rw [Nat.testBit_and, (par_mask q hq).2]; cases par q <;> simp)
  rw [c1] at e1
  rw [c2] at e2
  have l1 : cnt (fun q => r.testBit q) true ≤ 16 := fb_ct_le _ _
  have l2 : cnt (fun q => r.testBit q) false ≤ 16 := fb_ct_le _ _
  have l3 := lw_bits_le p 10
  have c4 : nI (lw_bits p 10) - nI (lw_bits p 10) / nI 2 * nI 2 = nI (lw_bits p 10 % 2) := n_rem (by omega) 2 (by omega) (by omega)
  rw [f_Th_mostNightsThrough, lit_38505, lit_38506, fa_and, fa_and, e1, e2, e3]
  by_cases hpar : lw_bits p 10 % 2 = 0
  · have hp2 : par p = true := by unfold par; simp [hpar]
    rw [hp2, Bool.not_true]
    unfold mst
    by_cases hlt : cnt (fun q => r.testBit q) true < cnt (fun q => r.testBit q) false
    · simp (disch := omega) only [n_lt, n_le, n_eq, n_cl, n_sub, nI_add, pk_mul, n_subL, n_Lsub, n_neN, n_Nne, n_leN, n_ltN, n_Nlt, n_Nle, le_T, le_F, lt_T, lt_F, eq_T, eq_F, true_or, or_true, false_or, or_false, true_and, and_true, false_and, and_false, and_self, or_self, not_true_eq_false, not_false_eq_true, decide_eq_true_eq, decide_true, decide_false, Bool.false_eq_true, Bool.true_eq_false, eq_self, ↓reduceIte, Option.bind_some, mo_in, lit_0, lit_1, lit_2, lit_3, lit_4, lit_5, lit_6, lit_7, lit_8, lit_9, lit_10, lit_11, lit_12, lit_13, lit_14, lit_15, lit_16, lit_20, lit_22, lit_24, lit_28, lit_30, lit_31, lit_32, lit_39, lit_40, lit_42, lit_48, lit_50, lit_57, lit_60, lit_61, lit_62, lit_63, lit_64, lit_100, lit_120, lit_121, lit_122, lit_128, lit_130, lit_255, lit_256, lit_360, lit_1024, lit_2147483647, m1_pred, Nat.add_sub_cancel, lit_124, lit_38, lit_37, lit_33, lit_126, lit_59, lit_112, lit_108, lit_110, lit_104, lit_47, lit_43, lit_45, lit_41, lit_123, lit_49, lit_58, lit_68, c4, hpar, f_Th_mostNightsThrough_L36, f_Th_mostNightsThrough_L48, f_Th_mostNightsThrough_L60]
    · simp (disch := omega) only [n_lt, n_le, n_eq, n_cl, n_sub, nI_add, pk_mul, n_subL, n_Lsub, n_neN, n_Nne, n_leN, n_ltN, n_Nlt, n_Nle, le_T, le_F, lt_T, lt_F, eq_T, eq_F, true_or, or_true, false_or, or_false, true_and, and_true, false_and, and_false, and_self, or_self, not_true_eq_false, not_false_eq_true, decide_eq_true_eq, decide_true, decide_false, Bool.false_eq_true, Bool.true_eq_false, eq_self, ↓reduceIte, Option.bind_some, mo_in, lit_0, lit_1, lit_2, lit_3, lit_4, lit_5, lit_6, lit_7, lit_8, lit_9, lit_10, lit_11, lit_12, lit_13, lit_14, lit_15, lit_16, lit_20, lit_22, lit_24, lit_28, lit_30, lit_31, lit_32, lit_39, lit_40, lit_42, lit_48, lit_50, lit_57, lit_60, lit_61, lit_62, lit_63, lit_64, lit_100, lit_120, lit_121, lit_122, lit_128, lit_130, lit_255, lit_256, lit_360, lit_1024, lit_2147483647, m1_pred, Nat.add_sub_cancel, lit_124, lit_38, lit_37, lit_33, lit_126, lit_59, lit_112, lit_108, lit_110, lit_104, lit_47, lit_43, lit_45, lit_41, lit_123, lit_49, lit_58, lit_68, c4, hpar, f_Th_mostNightsThrough_L36, f_Th_mostNightsThrough_L48, f_Th_mostNightsThrough_L60]
  · have hp2 : par p = false := by unfold par; simp [hpar]
    rw [hp2, Bool.not_false]
    unfold mst
    by_cases hlt : cnt (fun q => r.testBit q) false < cnt (fun q => r.testBit q) true
    · simp (disch := omega) only [n_lt, n_le, n_eq, n_cl, n_sub, nI_add, pk_mul, n_subL, n_Lsub, n_neN, n_Nne, n_leN, n_ltN, n_Nlt, n_Nle, le_T, le_F, lt_T, lt_F, eq_T, eq_F, true_or, or_true, false_or, or_false, true_and, and_true, false_and, and_false, and_self, or_self, not_true_eq_false, not_false_eq_true, decide_eq_true_eq, decide_true, decide_false, Bool.false_eq_true, Bool.true_eq_false, eq_self, ↓reduceIte, Option.bind_some, mo_in, lit_0, lit_1, lit_2, lit_3, lit_4, lit_5, lit_6, lit_7, lit_8, lit_9, lit_10, lit_11, lit_12, lit_13, lit_14, lit_15, lit_16, lit_20, lit_22, lit_24, lit_28, lit_30, lit_31, lit_32, lit_39, lit_40, lit_42, lit_48, lit_50, lit_57, lit_60, lit_61, lit_62, lit_63, lit_64, lit_100, lit_120, lit_121, lit_122, lit_128, lit_130, lit_255, lit_256, lit_360, lit_1024, lit_2147483647, m1_pred, Nat.add_sub_cancel, lit_124, lit_38, lit_37, lit_33, lit_126, lit_59, lit_112, lit_108, lit_110, lit_104, lit_47, lit_43, lit_45, lit_41, lit_123, lit_49, lit_58, lit_68, c4, hpar, f_Th_mostNightsThrough_L36, f_Th_mostNightsThrough_L48, f_Th_mostNightsThrough_L60]
    · simp (disch := omega) only [n_lt, n_le, n_eq, n_cl, n_sub, nI_add, pk_mul, n_subL, n_Lsub, n_neN, n_Nne, n_leN, n_ltN, n_Nlt, n_Nle, le_T, le_F, lt_T, lt_F, eq_T, eq_F, true_or, or_true, false_or, or_false, true_and, and_true, false_and, and_false, and_self, or_self, not_true_eq_false, not_false_eq_true, decide_eq_true_eq, decide_true, decide_false, Bool.false_eq_true, Bool.true_eq_false, eq_self, ↓reduceIte, Option.bind_some, mo_in, lit_0, lit_1, lit_2, lit_3, lit_4, lit_5, lit_6, lit_7, lit_8, lit_9, lit_10, lit_11, lit_12, lit_13, lit_14, lit_15, lit_16, lit_20, lit_22, lit_24, lit_28, lit_30, lit_31, lit_32, lit_39, lit_40, lit_42, lit_48, lit_50, lit_57, lit_60, lit_61, lit_62, lit_63, lit_64, lit_100, lit_120, lit_121, lit_122, lit_128, lit_130, lit_255, lit_256, lit_360, lit_1024, lit_2147483647, m1_pred, Nat.add_sub_cancel, lit_124, lit_38, lit_37, lit_33, lit_126, lit_59, lit_112, lit_108, lit_110, lit_104, lit_47, lit_43, lit_45, lit_41, lit_123, lit_49, lit_58, lit_68, c4, hpar, f_Th_mostNightsThrough_L36, f_Th_mostNightsThrough_L48, f_Th_mostNightsThrough_L60]
/-- a step into R: what is left of it is one night poorer at the least -/
def less (R : Nat → Bool) (q : Nat) : Nat → Bool := fun r => R r && !decide (r = q)
theorem good_step {n p l : Nat} {H B R : Nat → Bool} (hl : l < n) (hp : p < 2 ^ n) (hg : good n p H B R) (h1 : H (p ^^^ 2 ^ l) = false) (h2 : B (p ^^^ 2 ^ l) = false) : R (p ^^^ 2 ^ l) = true ∧ good n (p ^^^ 2 ^ l) (hs H (p ^^^ 2 ^ l)) B (less R (p ^^^ 2 ^ l)) := by
  have hR := hg.1 l hl h1 h2
  have hq := x_lt (l := l) hp hl
  have aux : ∀ x, hs H (p ^^^ 2 ^ l) x = false → H x = false ∧ ¬ x = p ^^^ 2 ^ l := by
    intro x hx
    unfold hs at hx
    simpa using hx
  refine ⟨hR, fun l' hl' a b => ?_, fun x hx hxR l' hl' a b => ?_⟩
  · obtain ⟨a1, a2⟩ := aux _ a
    unfold less
    rw [hg.2 _ hq hR l' hl' a1 b]
    simp [a2]
  · obtain ⟨a1, a2⟩ := aux _ a
    have hxR2 : R x = true := by unfold less at hxR; simp at hxR; exact hxR.1
    unfold less
    rw [hg.2 x hx hxR2 l' hl' a1 b]
    simp [a2]
theorem cnt_less {n p l : Nat} {R : Nat → Bool} (hl : l < n) (hn : n ≤ 4) (hp : p < 2 ^ n) (hR : R (p ^^^ 2 ^ l) = true) : cnt (less R (p ^^^ 2 ^ l)) (!par (p ^^^ 2 ^ l)) = cnt R (par p) ∧ cnt (less R (p ^^^ 2 ^ l)) (par (p ^^^ 2 ^ l)) + 1 = cnt R (!par p) := by
  have h16 : 2 ^ n ≤ 2 ^ 4 := Nat.pow_le_pow_right (by decide) hn
  have hq := x_lt (l := l) hp hl
  have hpf := par_flip p (by omega) l (by omega)
  constructor
  · unfold cnt
    apply fb_ct_cong
    intro q hq2
    unfold less
    by_cases e : q = p ^^^ 2 ^ l
    · rw [e, hpf]; cases par p <;> simp
    · rw [hpf]; simp [e]
  · unfold cnt
    have e := fb_ct_upd (fun q => R q && (par q == !par p)) false (show p ^^^ 2 ^ l < 16 by omega)
    simp only [hR, hpf] at e
    rw [hpf]
    rw [← fb_ct_cong (p := fun k => if k = p ^^^ 2 ^ l then false else (R k && (par k == !par p))) (q := fun q => less R (p ^^^ 2 ^ l) q && (par q == !par p))]
    · simpa using e
    · intro q hq2
      unfold less
      by_cases c : q = p ^^^ 2 ^ l
      · simp [c]
      · simp [c]
theorem mst_step {u l u' l' : Nat} (h1 : u' = l) (h2 : l' + 1 = u) : mst u' l' + 1 = mst u l := by
  subst h1 h2
  unfold mst
  by_cases c : l' < u'
  · rw [if_pos c, if_neg (by omega)]; omega
  · rw [if_neg c, if_pos (by omega)]
