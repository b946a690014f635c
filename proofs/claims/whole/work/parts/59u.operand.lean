/-! PURE: a text read: numbers, names, signs before an operand, brackets -/
theorem sign_num {v : Nat} (h : v < 10000) : lw_bin (nI v) = false ∧ lw_un (nI v) = false ∧ lw_sign (nI v) ∧ lw_alike (nI v) = (nI 1, nI v) := by
  have hne : ∀ z : Int32, z < 0 → (nI v == z) = false := fun z hz => by
    rw [beq_eq_false_iff_ne]
    rintro rfl
    exact nI_pos (by omega) hz
  refine ⟨?_, ?_, ?_, ?_⟩
  · unfold lw_bin
    rw [hne _ (by decide), hne _ (by decide), hne _ (by decide), hne _ (by decide), hne _ (by decide), hne _ (by decide), hne _ (by decide), hne _ (by decide), hne _ (by decide), hne _ (by decide)]
    rfl
  · unfold lw_un
    rw [hne _ (by decide), hne _ (by decide)]
    rfl
  · exact Or.inr (Or.inr (Or.inr (Or.inr (Or.inr (Or.inr ⟨v, h, rfl⟩)))))
  · unfold lw_alike
    rw [if_pos (Int32.not_lt.mp (fun z => nI_pos (by omega) z))]
    rfl
theorem num_stepT {v m : Nat} (hv : v < 1000) (h1 : 48 ≤ m) (h2 : m ≤ 57) : (nI v * 10 + nI m) - 48 = nI (10 * v + m - 48) := by
  rw [show (10 : Int32) = nI 10 from rfl, show (48 : Int32) = nI 48 from rfl, pk_mul, nI_add, n_sub (by omega)]
  congr 1; omega
theorem num_stepM {v m : Nat} (hv : v < 1000) (h1 : 48 ≤ m) (h2 : m ≤ 57) : (10 * nI v + nI m) - 48 = nI (10 * v + m - 48) := by
  rw [show (10 : Int32) = nI 10 from rfl, show (48 : Int32) = nI 48 from rfl, pk_mul, nI_add, n_sub (by omega)]
/-- from the d-th digit on -/
theorem num {k : Nat} (hk : k ≤ 120) {letters tape : Nat → Int32} {c : Nat → Nat} (hc : ∀ j, j < k → c j < 256 ∧ letters j = nI (c j) ∧ tape j = (nI (c j)).toInt8.toInt32) {cl ld i0 : Nat} (hcl : cl ≤ i0) (hld : ld ≤ i0) (hi0 : i0 ≤ k) (code act wi : Nat → Int32) : ∀ (w v d i fu fuM : Nat), d + w = 4 → 1 ≤ d → v < 10 ^ d → i0 + d = i → i ≤ k → w < fu → w < fuM → ∃ i' v' : Nat, v' < 10000 ∧ i ≤ i' ∧ i' ≤ k ∧ f_Ta_readNumber_L4 fu (nI v) (nI d) (nI k) (nI cl) (nI i) letters code = some (nI (cl + 1), nI i', upd code cl (nI v')) ∧ ((f_Mo_figure_L4 fuM (nI v) (nI d) (nI k) (nI i) (-nI 1) (nI ld) tape act wi = some (nI i', -nI 1, nI (ld + 1), upd act (130 + ld) (nI 1), upd wi (130 + ld) (nI v'))) ∨ (i' < k ∧ 48 ≤ c i' ∧ c i' ≤ 57 ∧ f_Mo_figure_L4 fuM (nI v) (nI d) (nI k) (nI i) (-nI 1) (nI ld) tape act wi = some (nI i', nI i', nI (ld + 1), upd act (130 + ld) (nI 1), upd wi (130 + ld) (nI v')))) := by
  have hone : (nI 1).toInt8.toInt32 = nI 1 := rfl
  have hend : ∀ (x v d : Nat) (fu : Nat), x ≤ k → f_Ta_readNumber_L48 (nI v) (nI cl) (nI x) code = some (nI (cl + 1), nI x, upd code cl (nI v)) ∧ f_Mo_figure_L74 (nI v) (nI x) (-nI 1) (nI ld) act wi = some (nI x, -nI 1, nI (ld + 1), upd act (130 + ld) (nI 1), upd wi (130 + ld) (nI v)) ∧ f_Mo_figure_L70 (nI v) (nI x) (-nI 1) (nI ld) act wi = some (nI x, nI x, nI (ld + 1), upd act (130 + ld) (nI 1), upd wi (130 + ld) (nI v)) := by
    intro x v d fu hx
    refine ⟨?_, ?_, ?_⟩
    · unfold f_Ta_readNumber_L48
      rw [ta_write (by omega)]; rfl
    · unfold f_Mo_figure_L74
      rw [show (1 : Int32) = nI 1 from rfl, mo_add (by omega), hone]; rfl
    · unfold f_Mo_figure_L70 f_Mo_figure_L74 f_Mo_faulty
      rw [show (1 : Int32) = nI 1 from rfl, mo_add (by omega), hone, if_neg (by decide)]; rfl
  intro w
  induction w with
  | zero =>
    intro v d i fu fuM hd hd1 hv hi hik hfu hfuM
    obtain ⟨g, rfl⟩ : ∃ g, fu = g + 1 := ⟨fu - 1, by omega⟩
    obtain ⟨gM, rfl⟩ : ∃ g, fuM = g + 1 := ⟨fuM - 1, by omega⟩
    have e4 : d = 4 := by omega
    subst e4
    obtain ⟨lc, lm, s1, s2, s3⟩ := see hk hc hik
    obtain ⟨t1, t2, t3⟩ := hend i v 0 0 hik
    have a1 : f_Ta_readNumber_L4 (g + 1) (nI v) (nI 4) (nI k) (nI cl) (nI i) letters code = some (nI (cl + 1), nI i, upd code cl (nI v)) := by
      rw [f_Ta_readNumber_L4, if_pos (by decide), t1]
    refine ⟨i, v, by simpa using hv, by omega, hik, a1, ?_⟩
    rcases s3 with ⟨m, hm, hqk, hcm, rfl, rfl⟩ | ⟨o1, o2, o3⟩
    · by_cases hd2 : 48 ≤ m ∧ m ≤ 57
      · refine Or.inr ⟨hqk, by omega, by omega, ?_⟩
        rw [f_Mo_figure_L4, if_pos (by decide), f_Mo_figure_L52, if_neg (by decide), s2]
        rw [Option.bind_some, show (48 : Int32) = nI 48 from rfl, show (57 : Int32) = nI 57 from rfl, (dig hm).2, decide_eq_true hd2]
        exact t3
      · refine Or.inl ?_
        rw [f_Mo_figure_L4, if_pos (by decide), f_Mo_figure_L52, if_neg (by decide), s2]
        rw [Option.bind_some, show (48 : Int32) = nI 48 from rfl, show (57 : Int32) = nI 57 from rfl, (dig hm).2, decide_eq_false hd2]
        exact t2
    · refine Or.inl ?_
      rw [f_Mo_figure_L4, if_pos (by decide), f_Mo_figure_L52, if_neg (by decide), s2]
      rw [Option.bind_some, show (48 : Int32) = nI 48 from rfl, show (57 : Int32) = nI 57 from rfl, (oth_digit o2).2]
      exact t2
  | succ w ih =>
    intro v d i fu fuM hd hd1 hv hi hik hfu hfuM
    obtain ⟨g, rfl⟩ : ∃ g, fu = g + 1 := ⟨fu - 1, by omega⟩
    obtain ⟨gM, rfl⟩ : ∃ g, fuM = g + 1 := ⟨fuM - 1, by omega⟩
    obtain ⟨lc, lm, s1, s2, s3⟩ := see hk hc hik
    obtain ⟨t1, t2, t3⟩ := hend i v 0 0 hik
    have hd4 : ((4 : Int32) ≤ nI d) = False := by
      rw [show (4 : Int32) = nI 4 from rfl, n_le (by omega) (by omega)]; exact eq_false (by omega)
    have hd0 : (nI d = 0) = False := by
      rw [show (0 : Int32) = nI 0 from rfl, n_eq (by omega) (by omega)]; exact eq_false (by omega)
    have hv1 : v < 1000 := by
      rcases (show d = 1 ∨ d = 2 ∨ d = 3 by omega) with rfl | rfl | rfl
      · omega
      · omega
      · omega
    have hstop : f_Ta_isDigit lc = some false → f_Mo_in lm (nI 48) (nI 57) = some false → ∃ i' v' : Nat, v' < 10000 ∧ i ≤ i' ∧ i' ≤ k ∧ f_Ta_readNumber_L4 (g + 1) (nI v) (nI d) (nI k) (nI cl) (nI i) letters code = some (nI (cl + 1), nI i', upd code cl (nI v')) ∧ ((f_Mo_figure_L4 (gM + 1) (nI v) (nI d) (nI k) (nI i) (-nI 1) (nI ld) tape act wi = some (nI i', -nI 1, nI (ld + 1), upd act (130 + ld) (nI 1), upd wi (130 + ld) (nI v'))) ∨ (i' < k ∧ 48 ≤ c i' ∧ c i' ≤ 57 ∧ f_Mo_figure_L4 (gM + 1) (nI v) (nI d) (nI k) (nI i) (-nI 1) (nI ld) tape act wi = some (nI i', nI i', nI (ld + 1), upd act (130 + ld) (nI 1), upd wi (130 + ld) (nI v')))) := by
      intro u1 u2
      refine ⟨i, v, by omega, by omega, hik, ?_, Or.inl ?_⟩
      · rw [f_Ta_readNumber_L4, if_neg (of_eq_false hd4), s1, Option.bind_some, u1]
        exact t1
      · rw [f_Mo_figure_L4, if_neg (of_eq_false hd4), s2, Option.bind_some, show (48 : Int32) = nI 48 from rfl, show (57 : Int32) = nI 57 from rfl, u2]
        show f_Mo_figure_L52 (nI v) (nI d) (nI k) (nI i) (-nI 1) (nI ld) tape act wi = _
        rw [f_Mo_figure_L52, if_neg (of_eq_false hd0), s2, Option.bind_some, show (48 : Int32) = nI 48 from rfl, show (57 : Int32) = nI 57 from rfl, u2]
        exact t2
    rcases s3 with ⟨m, hm, hqk, hcm, rfl, rfl⟩ | ⟨o1, o2, o3⟩
    · by_cases hd2 : 48 ≤ m ∧ m ≤ 57
      · obtain ⟨i', v', r1, r2, r3, r4, r5⟩ := ih (10 * v + m - 48) (d + 1) (i + 1) g gM (by omega) (by omega) (by rw [Nat.pow_succ]; omega) (by omega) (by omega) (by omega) (by omega)
        refine ⟨i', v', r1, by omega, r3, ?_, ?_⟩
        · rw [f_Ta_readNumber_L4, if_neg (of_eq_false hd4), s1, Option.bind_some, (dig hm).1, decide_eq_true hd2]
          simp only [Option.bind_some, if_true]
          rw [num_stepT hv1 hd2.1 hd2.2, show (1 : Int32) = nI 1 from rfl, nI_add, nI_add]
          exact r4
        · have e : f_Mo_figure_L4 (gM + 1) (nI v) (nI d) (nI k) (nI i) (-nI 1) (nI ld) tape act wi = f_Mo_figure_L4 gM (nI (10 * v + m - 48)) (nI (d + 1)) (nI k) (nI (i + 1)) (-nI 1) (nI ld) tape act wi := by
            rw [f_Mo_figure_L4, if_neg (of_eq_false hd4), s2, Option.bind_some, show f_Mo_in (nI m) 48 57 = some true by rw [show (48 : Int32) = nI 48 from rfl, show (57 : Int32) = nI 57 from rfl, (dig hm).2, decide_eq_true hd2]]
            simp only [Option.bind_some, if_true]
            rw [num_stepM hv1 hd2.1 hd2.2, show (1 : Int32) = nI 1 from rfl, nI_add, nI_add]
          rw [e]
          exact r5
      · exact hstop (by rw [(dig hm).1, decide_eq_false hd2]) (by rw [(dig hm).2, decide_eq_false hd2])
    · exact hstop (oth_digit o1).1 (oth_digit o2).2
