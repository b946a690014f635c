/-! PURE: numbers, bits, sets of pictures in sixteen longs -/
theorem p_sh : ∀ k, k < 64 → (Int32.toInt64 (nI k) &&& 63).toBitVec.smod 64 = BitVec.ofNat 64 k := by decide +kernel
theorem p_one : ∀ k, k < 64 → ((1 : Int64) <<< (Int32.toInt64 (nI k) &&& 63)).toBitVec = BitVec.twoPow 64 k := by decide +kernel
theorem p_cmp0 (a b : Int64) : lg_cmp a b = 0 ↔ a = b := by
  unfold lg_cmp
  by_cases h : a > b
  · rw [if_pos h]
    constructor
    · intro z; exact absurd z (by decide)
    · intro z; subst z; exact (Int64.lt_irrefl h).elim
  · rw [if_neg h]
    by_cases h2 : a = b
    · simp [h2]
    · rw [if_neg h2]
      constructor
      · intro z; exact absurd z (by decide)
      · intro z; exact absurd z h2
theorem p_bit (w : Int64) {r : Nat} (hr : r < 64) : lg_cmp ((w >>> (Int32.toInt64 (nI r) &&& 63)) &&& 1) 1 = 0 ↔ w.toBitVec.getLsbD r = true := by
  rw [p_cmp0, ← Int64.toBitVec_inj, Int64.toBitVec_and, Int64.toBitVec_shiftRight]
  rw [p_sh r hr]
  have h1 : (1 : Int64).toBitVec = 1#64 := rfl
  rw [h1]
  have h2 : (w.toBitVec.sshiftRight' (BitVec.ofNat 64 r)).getLsbD 0 = w.toBitVec.getLsbD r := by
    show (w.toBitVec.sshiftRight (BitVec.ofNat 64 r).toNat).getLsbD 0 = _
    rw [BitVec.getLsbD_sshiftRight]
    simp [Nat.mod_eq_of_lt (show r < 18446744073709551616 by omega), hr]
  constructor
  · intro h
    have h3 := congrArg (fun x => x.getLsbD 0) h
    simp only [BitVec.getLsbD_and, h2] at h3
    simpa using h3
  · intro h
    apply BitVec.eq_of_getLsbD_eq
    intro i hi
    rw [BitVec.getLsbD_and]
    by_cases h0 : i = 0
    · subst h0; rw [h2, h]; decide
    · have : (1#64).getLsbD i = false := by simp [h0]
      rw [this, Bool.and_false]
theorem p_set (w : Int64) {r i : Nat} (hr : r < 64) (hi : i < 64) : (w ||| ((1 : Int64) <<< (Int32.toInt64 (nI r) &&& 63))).toBitVec.getLsbD i = (w.toBitVec.getLsbD i || decide (i = r)) := by
  rw [Int64.toBitVec_or, p_one r hr, BitVec.getLsbD_or, BitVec.getLsbD_twoPow]
  by_cases h : i = r
  · subst h; simp [hr]
  · simp [h, show ¬ r = i from fun z => h z.symm]
theorem p_clr (w : Int64) {r i : Nat} (hr : r < 64) (hi : i < 64) : (w &&& (((1 : Int64) <<< (Int32.toInt64 (nI r) &&& 63)) ^^^ (-1 : Int64))).toBitVec.getLsbD i = (w.toBitVec.getLsbD i && !decide (i = r)) := by
  have ha : (-1 : Int64).toBitVec = BitVec.allOnes 64 := by decide
  rw [Int64.toBitVec_and, Int64.toBitVec_xor, p_one r hr, ha, BitVec.getLsbD_and, BitVec.getLsbD_xor, BitVec.getLsbD_twoPow, BitVec.getLsbD_allOnes]
  by_cases h : i = r
  · subst h; simp [hr]
  · simp [h, hi, show ¬ r = i from fun z => h z.symm]
theorem n_lt {a b : Nat} (ha : a < 2147483648) (hb : b < 2147483648) : (nI a < nI b) = (a < b) := propext (nI_ltI ha hb)
theorem n_le {a b : Nat} (ha : a < 2147483648) (hb : b < 2147483648) : (nI a ≤ nI b) = (a ≤ b) := propext (nI_leI ha hb)
theorem n_eq {a b : Nat} (ha : a < 2147483648) (hb : b < 2147483648) : (nI a = nI b) = (a = b) := propext (nI_eq ha hb)
theorem n_lt0 {a : Nat} (ha : a < 2147483648) : (nI a < 0) = False := propext ⟨fun h => nI_pos ha h, fun h => h.elim⟩
theorem n_0le {a : Nat} (ha : a < 2147483648) : (0 ≤ nI a) = True := propext ⟨fun _ => trivial, fun _ => nI_pos' ha⟩
theorem n_cl {a : Nat} (ha : a < 2147483648) : (nI a).toNatClampNeg = a := nI_clamp ha
theorem n_div {a : Nat} (ha : a < 2147483648) (d : Nat) (h0 : 0 < d) (hd : d < 2147483648) : nI a / nI d = nI (a / d) := pk_div ha h0 hd
theorem n_rem {a : Nat} (ha : a < 2147483648) (d : Nat) (h0 : 0 < d) (hd : d < 2147483648) : nI a - nI a / nI d * nI d = nI (a % d) := pk_rem ha h0 hd
theorem n_in {i N : Nat} (h : i < N) (hN : N < 2147483648) : ¬ (nI i < 0 ∨ N ≤ Int32.toNatClampNeg (nI i)) := by
  rw [n_cl (by omega)]
  rintro (z | z)
  · exact nI_pos (by omega) z
  · omega
/-! sets of pictures -/
theorem pi_fits {q : Nat} (hq : q < 1024) : f_Pi_fits (nI q) = some true := by
  unfold f_Pi_fits
  rw [if_neg (nI_pos (by omega)), if_neg (by show ¬ nI 1024 ≤ nI q; rw [n_le (by omega) (by omega)]; omega)]
theorem p_ix {q : Nat} (hq : q < 1024) : ¬ (nI q / (64 : Int32) < 0 ∨ 16 ≤ Int32.toNatClampNeg (nI q / (64 : Int32))) := by
  rw [show nI q / (64 : Int32) = nI (q / 64) from n_div (by omega) 64 (by omega) (by omega)]
  rintro (h | h)
  · exact nI_pos (by omega) h
  · rw [n_cl (by omega)] at h; omega
theorem pi_holds {q : Nat} (hq : q < 1024) (w : Nat → Int64) : f_Pi_holds (nI q) w = some (bitw w q) := by
  unfold f_Pi_holds
  rw [pi_fits hq]
  simp only [Option.bind_some, if_true]
  rw [if_neg (p_ix hq)]
  rw [show nI q / (64 : Int32) = nI (q / 64) from n_div (by omega) 64 (by omega) (by omega), n_cl (by omega)]
  rw [show nI q - nI (q / 64) * (64 : Int32) = nI (q % 64) by
    have := n_rem (a := q) (by omega) 64 (by omega) (by omega)
    rw [n_div (by omega) 64 (by omega) (by omega)] at this
    exact this]
  unfold bitw
  by_cases h : (w (q / 64)).toBitVec.getLsbD (q % 64) = true
  · rw [if_pos ((p_bit _ (by omega)).mpr h), h]
  · rw [if_neg (fun z => h ((p_bit _ (by omega)).mp z))]
    rw [show (w (q / 64)).toBitVec.getLsbD (q % 64) = false by simpa using h]
theorem bitw_upd (w : Nat → Int64) (q r : Nat) (x : Int64) : bitw (vp_updL w (q / 64) x) r = if r / 64 = q / 64 then x.toBitVec.getLsbD (r % 64) else bitw w r := by
  unfold bitw vp_updL
  by_cases h : r / 64 = q / 64
  · rw [if_pos h, if_pos h]
  · rw [if_neg h, if_neg h]
theorem pi_add {q : Nat} (hq : q < 1024) (w : Nat → Int64) : ∃ w', f_Pi_add (nI q) w = some w' ∧ ∀ r, bitw w' r = (bitw w r || decide (r = q)) := by
  refine ⟨vp_updL w (q / 64) (w (q / 64) ||| ((1 : Int64) <<< (Int32.toInt64 (nI (q % 64)) &&& 63))), ?_, fun r => ?_⟩
  · unfold f_Pi_add
    rw [pi_fits hq]
    simp only [Option.bind_some, if_true]
    rw [if_neg (p_ix hq), if_neg (p_ix hq)]
    rw [show nI q / (64 : Int32) = nI (q / 64) from n_div (by omega) 64 (by omega) (by omega), n_cl (by omega)]
    rw [show nI q - nI (q / 64) * (64 : Int32) = nI (q % 64) by
      have := n_rem (a := q) (by omega) 64 (by omega) (by omega)
      rw [n_div (by omega) 64 (by omega) (by omega)] at this
      exact this]
  · rw [bitw_upd]
    by_cases h : r / 64 = q / 64
    · rw [if_pos h, p_set _ (by omega) (by omega)]
      unfold bitw
      rw [h]
      congr 1
      by_cases h2 : r = q
      · simp [h2]
      · simp [h2, show ¬ r % 64 = q % 64 from fun z => h2 (by omega)]
    · rw [if_neg h]
      simp [show ¬ r = q from fun z => h (by rw [z])]
theorem pi_remove {q : Nat} (hq : q < 1024) (w : Nat → Int64) : ∃ w', f_Pi_remove (nI q) w = some w' ∧ ∀ r, bitw w' r = (bitw w r && !decide (r = q)) := by
  refine ⟨vp_updL w (q / 64) (w (q / 64) &&& (((1 : Int64) <<< (Int32.toInt64 (nI (q % 64)) &&& 63)) ^^^ (-1 : Int64))), ?_, fun r => ?_⟩
  · unfold f_Pi_remove
    rw [pi_fits hq]
    simp only [Option.bind_some, if_true]
    rw [if_neg (p_ix hq), if_neg (p_ix hq)]
    rw [show nI q / (64 : Int32) = nI (q / 64) from n_div (by omega) 64 (by omega) (by omega), n_cl (by omega)]
    rw [show nI q - nI (q / 64) * (64 : Int32) = nI (q % 64) by
      have := n_rem (a := q) (by omega) 64 (by omega) (by omega)
      rw [n_div (by omega) 64 (by omega) (by omega)] at this
      exact this]
  · rw [bitw_upd]
    by_cases h : r / 64 = q / 64
    · rw [if_pos h, p_clr _ (by omega) (by omega)]
      unfold bitw
      rw [h]
      congr 1
      by_cases h2 : r = q
      · simp [h2]
      · simp [h2, show ¬ r % 64 = q % 64 from fun z => h2 (by omega)]
    · rw [if_neg h]
      simp [show ¬ r = q from fun z => h (by rw [z])]
/-! rows filled -/
theorem fill_J (v : Int64) (N : Nat) (hN : N < 2147483648) : ∀ (d i fu : Nat) (f : Nat → Int64), i + d = N → d < fu → ∃ f', f_JA_fill_J_L6 fu v (nI i) (Int32.ofNat N) f N = some f' ∧ ∀ j, f' j = if i ≤ j ∧ j < N then v else f j := by
  intro d
  induction d with
  | zero =>
    intro i fu f hi hfu
    obtain ⟨n, rfl⟩ : ∃ n, fu = n + 1 := ⟨fu - 1, by omega⟩
    refine ⟨f, ?_, fun j => ?_⟩
    · unfold f_JA_fill_J_L6
      rw [if_pos (by show nI N ≤ nI i; rw [n_le hN (by omega)]; omega)]
    · rw [if_neg (by omega)]
  | succ d ih =>
    intro i fu f hi hfu
    obtain ⟨n, rfl⟩ : ∃ n, fu = n + 1 := ⟨fu - 1, by omega⟩
    obtain ⟨f', h1, h2⟩ := ih (i + 1) n (vp_updL f i v) (by omega) (by omega)
    refine ⟨f', ?_, fun j => ?_⟩
    · unfold f_JA_fill_J_L6
      rw [if_neg (by show ¬ nI N ≤ nI i; rw [n_le hN (by omega)]; omega), if_neg (n_in (by omega) hN), n_cl (by omega), nI_1]
      exact h1
    · rw [h2 j]
      unfold vp_updL
      by_cases h : j = i
      · subst h; rw [if_neg (by omega), if_pos rfl, if_pos (by omega)]
      · rw [if_neg h]
        by_cases h3 : i ≤ j ∧ j < N
        · rw [if_pos h3, if_pos (by omega)]
        · rw [if_neg h3, if_neg (by omega)]
theorem fill_I (v : Int32) (N : Nat) (hN : N < 2147483648) : ∀ (d i fu : Nat) (f : Nat → Int32), i + d = N → d < fu → ∃ f', f_JA_fill_I_L5 fu v (nI i) (Int32.ofNat N) f N = some f' ∧ ∀ j, f' j = if i ≤ j ∧ j < N then v else f j := by
  intro d
  induction d with
  | zero =>
    intro i fu f hi hfu
    obtain ⟨n, rfl⟩ : ∃ n, fu = n + 1 := ⟨fu - 1, by omega⟩
    refine ⟨f, ?_, fun j => ?_⟩
    · unfold f_JA_fill_I_L5
      rw [if_pos (by show nI N ≤ nI i; rw [n_le hN (by omega)]; omega)]
    · rw [if_neg (by omega)]
  | succ d ih =>
    intro i fu f hi hfu
    obtain ⟨n, rfl⟩ : ∃ n, fu = n + 1 := ⟨fu - 1, by omega⟩
    obtain ⟨f', h1, h2⟩ := ih (i + 1) n (upd f i v) (by omega) (by omega)
    refine ⟨f', ?_, fun j => ?_⟩
    · unfold f_JA_fill_I_L5
      rw [if_neg (by show ¬ nI N ≤ nI i; rw [n_le hN (by omega)]; omega), if_neg (n_in (by omega) hN), n_cl (by omega), nI_1]
      exact h1
    · rw [h2 j]
      unfold upd
      by_cases h : j = i
      · subst h; rw [if_neg (by omega), if_pos rfl, if_pos (by omega)]
      · rw [if_neg h]
        by_cases h3 : i ≤ j ∧ j < N
        · rw [if_pos h3, if_pos (by omega)]
        · rw [if_neg h3, if_neg (by omega)]
theorem fillI (v : Int32) (f : Nat → Int32) (N : Nat) (hN : N < 3000) : ∃ f', f_JA_fill_I v f N = some f' ∧ ∀ j, f' j = if j < N then v else f j := by
  obtain ⟨f', h1, h2⟩ := fill_I v N (by omega) N 0 3000 f (by omega) hN
  exact ⟨f', h1, fun j => by rw [h2]; simp⟩
theorem fillJ (v : Int64) (f : Nat → Int64) (N : Nat) (hN : N < 3000) : ∃ f', f_JA_fill_J v f N = some f' ∧ ∀ j, f' j = if j < N then v else f j := by
  obtain ⟨f', h1, h2⟩ := fill_J v N (by omega) N 0 3000 f (by omega) hN
  exact ⟨f', h1, fun j => by rw [h2]; simp⟩
theorem pi_empty (w : Nat → Int64) : ∃ w', f_Pi_empty w = some w' ∧ ∀ q, q < 1024 → bitw w' q = false := by
  obtain ⟨w', h1, h2⟩ := fillJ 0 w 16 (by omega)
  refine ⟨w', ?_, fun q hq => ?_⟩
  · unfold f_Pi_empty; rw [h1]; rfl
  · unfold bitw; rw [h2, if_pos (by omega)]; exact BitVec.getLsbD_zero
theorem pi_become (o p1 : Nat → Int64) : ∃ w', f_Pi_become o p1 = some w' ∧ ∀ q, q < 1024 → bitw w' q = bitw p1 q := by
  refine ⟨_, if_neg (by decide), fun q hq => ?_⟩
  unfold bitw va_cpy
  rw [if_pos]
  · rw [show Int32.toNatClampNeg 0 = 0 from rfl]; simp
  · rw [show Int32.toNatClampNeg 0 = 0 from rfl, show Int32.toNatClampNeg 16 = 16 from rfl]; omega
