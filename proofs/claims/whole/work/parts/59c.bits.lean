/-! PURE: bits counted -/
theorem and_split {b d : Nat} (a c : Nat) (hb : b < 256) (hd : d < 256) : (256 * a + b) &&& (256 * c + d) = 256 * (a &&& c) + (b &&& d) := by
  have h1 : ((256 * a + b) &&& (256 * c + d)) / 2 ^ 8 = a &&& c := by
    rw [Nat.and_div_two_pow, show (256 * a + b) / 2 ^ 8 = a by omega, show (256 * c + d) / 2 ^ 8 = c by omega]
  have h2 : ((256 * a + b) &&& (256 * c + d)) % 2 ^ 8 = b &&& d := by
    rw [Nat.and_mod_two_pow, show (256 * a + b) % 2 ^ 8 = b by omega, show (256 * c + d) % 2 ^ 8 = d by omega]
  omega
def sw_m (c : Nat) : Nat → Nat
  | 0 => 0
  | k + 1 => 256 * sw_m c k + c
def sw_a (k x : Nat) : Nat := x - (x / 2 &&& sw_m 85 k)
def sw_b (k a : Nat) : Nat := (a &&& sw_m 51 k) + (a / 4 &&& sw_m 51 k)
def sw_c (k b : Nat) : Nat := (b + b / 16) &&& sw_m 15 k
def sw_p1 (r : Nat) : Nat := ((r - (r / 2 &&& 85)) &&& 51) + ((r - (r / 2 &&& 85)) / 4 &&& 51)
theorem sw_f1 : ∀ t, t < 2 → ∀ r, r < 256 → (128 * t + r / 2) &&& 85 = r / 2 &&& 85 := by decide +kernel
theorem sw_f2 : ∀ t, t < 4 → ∀ r, r < 256 → (64 * t + r / 4) &&& 51 = r / 4 &&& 51 := by decide +kernel
theorem sw_f3 : ∀ r, r < 256 → sw_p1 r ≤ 68 ∧ sw_p1 r % 16 ≤ 4 := by decide +kernel
theorem sw_f4 : ∀ t, t < 5 → ∀ r, r < 256 → (16 * t + sw_p1 r + sw_p1 r / 16) &&& 15 = lw_bits r 8 := by decide +kernel
theorem sw_a_step (k q r : Nat) (hr : r < 256) : sw_a (k + 1) (256 * q + r) = 256 * sw_a k q + (r - (r / 2 &&& 85)) := by
  unfold sw_a
  rw [show (256 * q + r) / 2 = 256 * (q / 2) + (128 * (q % 2) + r / 2) by omega, sw_m, and_split _ _ (by omega) (by omega), sw_f1 _ (by omega) _ hr]
  have h1 : (q / 2 &&& sw_m 85 k) ≤ q / 2 := Nat.and_le_left
  have h2 : (r / 2 &&& 85) ≤ r / 2 := Nat.and_le_left
  omega
theorem sw_b_step (k q r : Nat) (hr : r < 256) : sw_b (k + 1) (256 * q + r) = 256 * sw_b k q + ((r &&& 51) + (r / 4 &&& 51)) := by
  unfold sw_b
  rw [show (256 * q + r) / 4 = 256 * (q / 4) + (64 * (q % 4) + r / 4) by omega, sw_m, and_split _ _ (by omega) (by omega), and_split _ _ (by omega) (by omega), sw_f2 _ (by omega) _ hr]
  omega
theorem sw_p_step (k q r : Nat) (hr : r < 256) : sw_b (k + 1) (sw_a (k + 1) (256 * q + r)) = 256 * sw_b k (sw_a k q) + sw_p1 r := by
  rw [sw_a_step k q r hr, sw_b_step _ _ _ (by omega)]
  rfl
theorem sw_p_mod (k x : Nat) : sw_b k (sw_a k x) % 16 ≤ 4 := by
  cases k with
  | zero => unfold sw_b; simp [sw_m]
  | succ k =>
    rw [show x = 256 * (x / 256) + x % 256 by omega, sw_p_step _ _ _ (by omega)]
    have := (sw_f3 (x % 256) (by omega)).2
    omega
theorem sw_c_step (k q r : Nat) (hr : r < 256) (hq : q % 16 ≤ 4) : sw_c (k + 1) (256 * q + sw_p1 r) = 256 * sw_c k q + lw_bits r 8 := by
  have h3 := (sw_f3 r hr).1
  unfold sw_c
  rw [show 256 * q + sw_p1 r + (256 * q + sw_p1 r) / 16 = 256 * (q + q / 16) + (16 * (q % 16) + sw_p1 r + sw_p1 r / 16) by omega, sw_m, and_split _ _ (by omega) (by omega), sw_f4 _ (by omega) _ hr]
def sw_w : Nat → Nat → Nat
  | 0, _ => 0
  | k + 1, x => 256 * sw_w k (x / 256) + lw_bits (x % 256) 8
theorem sw_all : ∀ (k x : Nat), sw_c k (sw_b k (sw_a k x)) = sw_w k x := by
  intro k
  induction k with
  | zero => intro x; unfold sw_c; simp [sw_m, sw_w]
  | succ k ih =>
    intro x
    rw [sw_w, ← ih, ← sw_c_step _ _ _ (by omega) (sw_p_mod k (x / 256)), ← sw_p_step _ _ _ (by omega), show 256 * (x / 256) + x % 256 = x by omega]
theorem lw_bits_le (p : Nat) : ∀ n, lw_bits p n ≤ n
  | 0 => Nat.le_refl 0
  | n + 1 => by
    have := lw_bits_le p n
    rw [lw_bits]
    by_cases h : p.testBit n = true
    · rw [if_pos h]; omega
    · rw [if_neg h]; omega
theorem lw_bits_ct (p : Nat) : ∀ n, lw_bits p n = fb_ct (fun i => p.testBit i) n
  | 0 => rfl
  | n + 1 => by rw [lw_bits, fb_ct_succ, lw_bits_ct p n]
theorem lw_bits_low (x : Nat) : ∀ n, n ≤ 8 → lw_bits x n = lw_bits (x % 256) n
  | 0, _ => rfl
  | n + 1, h => by
    rw [lw_bits, lw_bits, lw_bits_low x n (by omega), show x % 256 = x % 2 ^ 8 from rfl, Nat.testBit_mod_two_pow]
    simp [show n < 8 by omega]
theorem lw_bits_peel (x : Nat) : ∀ m, lw_bits x (8 + m) = lw_bits (x % 256) 8 + lw_bits (x / 256) m
  | 0 => lw_bits_low x 8 (by omega)
  | m + 1 => by
    show lw_bits x (8 + m) + (if x.testBit (8 + m) = true then 1 else 0) = lw_bits (x % 256) 8 + (lw_bits (x / 256) m + (if (x / 256).testBit m = true then 1 else 0))
    rw [lw_bits_peel x m, show (x / 256).testBit m = x.testBit (8 + m) by rw [show x / 256 = x / 2 ^ 8 from rfl, Nat.testBit_div_two_pow, Nat.add_comm]]
    omega
theorem sw_final8 {w0 w1 w2 w3 w4 w5 w6 w7 : Nat} (h0 : w0 ≤ 8) (h1 : w1 ≤ 8) (h2 : w2 ≤ 8) (h3 : w3 ≤ 8) (h4 : w4 ≤ 8) (h5 : w5 ≤ 8) (h6 : w6 ≤ 8) (h7 : w7 ≤ 8) {y z1 z2 z3 : Nat} (hy : y = 256 * (256 * (256 * (256 * (256 * (256 * (256 * (256 * 0 + w7) + w6) + w5) + w4) + w3) + w2) + w1) + w0) (e1 : z1 = y + y / 256) (e2 : z2 = z1 + z1 / 65536) (e3 : z3 = z2 + z2 / 4294967296) : y < 2 ^ 63 ∧ z1 < 2 ^ 63 ∧ z2 < 2 ^ 63 ∧ z3 < 2 ^ 63 ∧ z3 % 128 = w0 + w1 + w2 + w3 + w4 + w5 + w6 + w7 := by
  obtain ⟨a6, g6⟩ : ∃ a, a = 256 * w7 + w6 := ⟨_, rfl⟩
  obtain ⟨a5, g5⟩ : ∃ a, a = 256 * a6 + w5 := ⟨_, rfl⟩
  obtain ⟨a4, g4⟩ : ∃ a, a = 256 * a5 + w4 := ⟨_, rfl⟩
  obtain ⟨a3, g3⟩ : ∃ a, a = 256 * a4 + w3 := ⟨_, rfl⟩
  obtain ⟨a2, g2⟩ : ∃ a, a = 256 * a3 + w2 := ⟨_, rfl⟩
  obtain ⟨a1, g1⟩ : ∃ a, a = 256 * a2 + w1 := ⟨_, rfl⟩
  have f0 : y = 256 * a1 + w0 := by omega
  clear hy
  have f1 : y / 256 = a1 := by omega
  have f2 : z1 / 65536 = a2 + a3 := by omega
  have f3 : z2 / 4294967296 = a4 + a5 + a6 + w7 := by omega
  omega
theorem sw_final4 {w0 w1 w2 w3 : Nat} (h0 : w0 ≤ 8) (h1 : w1 ≤ 8) (h2 : w2 ≤ 8) (h3 : w3 ≤ 8) {y z1 z2 : Nat} (hy : y = 256 * (256 * (256 * (256 * 0 + w3) + w2) + w1) + w0) (e1 : z1 = y + y / 256) (e2 : z2 = z1 + z1 / 65536) : y < 2 ^ 31 ∧ z1 < 2 ^ 31 ∧ z2 < 2 ^ 31 ∧ z2 % 64 = w0 + w1 + w2 + w3 := by
  obtain ⟨a2, g2⟩ : ∃ a, a = 256 * w3 + w2 := ⟨_, rfl⟩
  obtain ⟨a1, g1⟩ : ∃ a, a = 256 * a2 + w1 := ⟨_, rfl⟩
  have f0 : y = 256 * a1 + w0 := by omega
  clear hy
  have f1 : y / 256 = a1 := by omega
  have f2 : z1 / 65536 = a2 + w3 := by omega
  omega
theorem bits_64 (x : Nat) : lw_bits x 64 = lw_bits (x % 256) 8 + (lw_bits (x / 256 % 256) 8 + (lw_bits (x / 256 / 256 % 256) 8 + (lw_bits (x / 256 / 256 / 256 % 256) 8 + (lw_bits (x / 256 / 256 / 256 / 256 % 256) 8 + (lw_bits (x / 256 / 256 / 256 / 256 / 256 % 256) 8 + (lw_bits (x / 256 / 256 / 256 / 256 / 256 / 256 % 256) 8 + (lw_bits (x / 256 / 256 / 256 / 256 / 256 / 256 / 256 % 256) 8 + 0))))))) := by
  rw [show 64 = 8 + (8 + (8 + (8 + (8 + (8 + (8 + (8 + 0))))))) from rfl, lw_bits_peel, lw_bits_peel, lw_bits_peel, lw_bits_peel, lw_bits_peel, lw_bits_peel, lw_bits_peel, lw_bits_peel]
  rfl
theorem bits_32 (x : Nat) : lw_bits x 32 = lw_bits (x % 256) 8 + (lw_bits (x / 256 % 256) 8 + (lw_bits (x / 256 / 256 % 256) 8 + (lw_bits (x / 256 / 256 / 256 % 256) 8 + 0))) := by
  rw [show 32 = 8 + (8 + (8 + (8 + 0))) from rfl, lw_bits_peel, lw_bits_peel, lw_bits_peel, lw_bits_peel]
  rfl
def jl1 (x : Int64) : Int64 := x - ((Int64.toUInt64 x >>> ((Int32.toInt64 (1 : Int32)).toUInt64 &&& Int64.toUInt64 63)).toInt64 &&& (6148914691236517205 : Int64))
def jl2 (x : Int64) : Int64 := (x &&& (3689348814741910323 : Int64)) + ((Int64.toUInt64 x >>> ((Int32.toInt64 (2 : Int32)).toUInt64 &&& Int64.toUInt64 63)).toInt64 &&& (3689348814741910323 : Int64))
def jl3 (x : Int64) : Int64 := (x + (Int64.toUInt64 x >>> ((Int32.toInt64 (4 : Int32)).toUInt64 &&& Int64.toUInt64 63)).toInt64) &&& (1085102592571150095 : Int64)
def jl4 (x : Int64) : Int64 := x + (Int64.toUInt64 x >>> ((Int32.toInt64 (8 : Int32)).toUInt64 &&& Int64.toUInt64 63)).toInt64
def jl5 (x : Int64) : Int64 := x + (Int64.toUInt64 x >>> ((Int32.toInt64 (16 : Int32)).toUInt64 &&& Int64.toUInt64 63)).toInt64
def jl6 (x : Int64) : Int64 := x + (Int64.toUInt64 x >>> ((Int32.toInt64 (32 : Int32)).toUInt64 &&& Int64.toUInt64 63)).toInt64
theorem jl_parts (x : Int64) : f_JL_bitCount x = some (Int64.toInt32 (jl6 (jl5 (jl4 (jl3 (jl2 (jl1 x)))))) &&& (127 : Int32)) := rfl
theorem jl_count (x : Int64) : f_JL_bitCount x = some (nI (lw_bits x.toBitVec.toNat 64)) := by
  obtain ⟨n, hn, rfl⟩ := wb_of x
  rw [wb_tn hn, jl_parts]
  have b1 : sw_a 8 n < 2 ^ 64 := Nat.lt_of_le_of_lt (Nat.sub_le _ _) hn
  have m1 : sw_m 85 8 < 2 ^ 64 := by decide +kernel
  have m2 : sw_m 51 8 < 2 ^ 64 := by decide +kernel
  have m3 : sw_m 15 8 < 2 ^ 64 := by decide +kernel
  have a1 : jl1 (lN n) = lN (sw_a 8 n) := by
    unfold jl1 sw_a
    rw [show (1 : Int32) = nI 1 from rfl, wb_shr hn (by omega), show (6148914691236517205 : Int64) = lN (sw_m 85 8) by decide +kernel, wb_and (by omega) m1, lN_sub (Nat.le_trans Nat.and_le_left (Nat.div_le_self _ _))]
  have a2 : jl2 (lN (sw_a 8 n)) = lN (sw_b 8 (sw_a 8 n)) := by
    unfold jl2
    rw [show (2 : Int32) = nI 2 from rfl, wb_shr b1 (by omega), show (3689348814741910323 : Int64) = lN (sw_m 51 8) by decide +kernel, wb_and b1 m2, wb_and (by omega) m2, lN_add]
    rfl
  have b2 : sw_b 8 (sw_a 8 n) < 2 ^ 63 := by
    have h1 : (sw_a 8 n &&& sw_m 51 8) ≤ sw_m 51 8 := Nat.and_le_right
    have h2 : (sw_a 8 n / 4 &&& sw_m 51 8) ≤ sw_m 51 8 := Nat.and_le_right
    have h3 : sw_m 51 8 = 3689348814741910323 := by decide +kernel
    unfold sw_b
    omega
  have a3 : jl3 (lN (sw_b 8 (sw_a 8 n))) = lN (sw_w 8 n) := by
    unfold jl3
    rw [show (4 : Int32) = nI 4 from rfl, wb_shr (by omega) (by omega), lN_add, show (1085102592571150095 : Int64) = lN (sw_m 15 8) by decide +kernel, wb_and (by omega) m3]
    exact congrArg lN (sw_all 8 n)
  rw [a1, a2, a3, bits_64]
  have l0 := lw_bits_le (n % 256) 8
  have l1 := lw_bits_le (n / 256 % 256) 8
  have l2 := lw_bits_le (n / 256 / 256 % 256) 8
  have l3 := lw_bits_le (n / 256 / 256 / 256 % 256) 8
  have l4 := lw_bits_le (n / 256 / 256 / 256 / 256 % 256) 8
  have l5 := lw_bits_le (n / 256 / 256 / 256 / 256 / 256 % 256) 8
  have l6 := lw_bits_le (n / 256 / 256 / 256 / 256 / 256 / 256 % 256) 8
  have l7 := lw_bits_le (n / 256 / 256 / 256 / 256 / 256 / 256 / 256 % 256) 8
  obtain ⟨y, hy⟩ : ∃ y, y = sw_w 8 n := ⟨_, rfl⟩
  obtain ⟨z1, e1⟩ : ∃ z, z = y + y / 256 := ⟨_, rfl⟩
  obtain ⟨z2, e2⟩ : ∃ z, z = z1 + z1 / 65536 := ⟨_, rfl⟩
  obtain ⟨z3, e3⟩ : ∃ z, z = z2 + z2 / 4294967296 := ⟨_, rfl⟩
  obtain ⟨c1, c2, c3, c4, c5⟩ := sw_final8 l0 l1 l2 l3 l4 l5 l6 l7 hy e1 e2 e3
  rw [← hy]
  have a4 : jl4 (lN y) = lN z1 := by
    unfold jl4
    rw [show (8 : Int32) = nI 8 from rfl, wb_shr (by omega) (by omega), lN_add, e1]
  have a5 : jl5 (lN z1) = lN z2 := by
    unfold jl5
    rw [show (16 : Int32) = nI 16 from rfl, wb_shr (by omega) (by omega), lN_add, e2]
  have a6 : jl6 (lN z2) = lN z3 := by
    unfold jl6
    rw [show (32 : Int32) = nI 32 from rfl, wb_shr (by omega) (by omega), lN_add, e3]
  rw [a4, a5, a6, lN_i, show (127 : Int32) = nI (2 ^ 7 - 1) from rfl, fa_mask, show 2 ^ 7 = 128 from rfl, c5]
  congr 2
  omega
def ji1 (x : Int32) : Int32 := x - ((Int32.toUInt32 x >>> (Int32.toUInt32 (1 : Int32) &&& Int32.toUInt32 31)).toInt32 &&& 1431655765)
def ji2 (x : Int32) : Int32 := (x &&& 858993459) + ((Int32.toUInt32 x >>> (Int32.toUInt32 (2 : Int32) &&& Int32.toUInt32 31)).toInt32 &&& 858993459)
def ji3 (x : Int32) : Int32 := (x + (Int32.toUInt32 x >>> (Int32.toUInt32 (4 : Int32) &&& Int32.toUInt32 31)).toInt32) &&& 252645135
def ji4 (x : Int32) : Int32 := x + (Int32.toUInt32 x >>> (Int32.toUInt32 (8 : Int32) &&& Int32.toUInt32 31)).toInt32
def ji5 (x : Int32) : Int32 := x + (Int32.toUInt32 x >>> (Int32.toUInt32 (16 : Int32) &&& Int32.toUInt32 31)).toInt32
theorem ji_parts (x : Int32) : f_JI_bitCount x = some (ji5 (ji4 (ji3 (ji2 (ji1 x)))) &&& (63 : Int32)) := rfl
theorem ji_count {n : Nat} (hn : n < 4294967296) : f_JI_bitCount (nI n) = some (nI (lw_bits n 32)) := by
  rw [ji_parts]
  have b1 : sw_a 4 n < 2 ^ 32 := Nat.lt_of_le_of_lt (Nat.sub_le _ _) hn
  have a1 : ji1 (nI n) = nI (sw_a 4 n) := by
    unfold ji1 sw_a
    rw [pk_ushrN hn 1 1 rfl, show (1431655765 : Int32) = nI (sw_m 85 4) by decide +kernel, fa_and, pk_sub (Nat.le_trans Nat.and_le_left (Nat.div_le_self _ _))]
  have a2 : ji2 (nI (sw_a 4 n)) = nI (sw_b 4 (sw_a 4 n)) := by
    unfold ji2
    rw [pk_ushrN b1 2 2 rfl, show (858993459 : Int32) = nI (sw_m 51 4) by decide +kernel, fa_and, fa_and, nI_add]
    rfl
  have b2 : sw_b 4 (sw_a 4 n) < 2 ^ 31 := by
    have h1 : (sw_a 4 n &&& sw_m 51 4) ≤ sw_m 51 4 := Nat.and_le_right
    have h2 : (sw_a 4 n / 4 &&& sw_m 51 4) ≤ sw_m 51 4 := Nat.and_le_right
    have h3 : sw_m 51 4 = 858993459 := by decide +kernel
    unfold sw_b
    omega
  have a3 : ji3 (nI (sw_b 4 (sw_a 4 n))) = nI (sw_w 4 n) := by
    unfold ji3
    rw [pk_ushrN (by omega) 4 4 rfl, nI_add, show (252645135 : Int32) = nI (sw_m 15 4) by decide +kernel, fa_and]
    exact congrArg nI (sw_all 4 n)
  rw [a1, a2, a3, bits_32]
  have l0 := lw_bits_le (n % 256) 8
  have l1 := lw_bits_le (n / 256 % 256) 8
  have l2 := lw_bits_le (n / 256 / 256 % 256) 8
  have l3 := lw_bits_le (n / 256 / 256 / 256 % 256) 8
  obtain ⟨y, hy⟩ : ∃ y, y = sw_w 4 n := ⟨_, rfl⟩
  obtain ⟨z1, e1⟩ : ∃ z, z = y + y / 256 := ⟨_, rfl⟩
  obtain ⟨z2, e2⟩ : ∃ z, z = z1 + z1 / 65536 := ⟨_, rfl⟩
  obtain ⟨c1, c2, c3, c5⟩ := sw_final4 l0 l1 l2 l3 hy e1 e2
  rw [← hy]
  have a4 : ji4 (nI y) = nI z1 := by
    unfold ji4
    rw [pk_ushrN (by omega) 8 8 rfl, nI_add, e1]
  have a5 : ji5 (nI z1) = nI z2 := by
    unfold ji5
    rw [pk_ushrN (by omega) 16 16 rfl, nI_add, e2]
  rw [a4, a5, show (63 : Int32) = nI (2 ^ 6 - 1) from rfl, fa_mask, show 2 ^ 6 = 64 from rfl, c5]
  congr 2
  omega
