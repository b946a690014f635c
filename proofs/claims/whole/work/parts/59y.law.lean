/-! PURE: the law told -/
theorem la_become {e : Nat} (he : e ≤ 256) (cd code : Nat → Int32) (len : Int32) : f_La_become (nI e) cd 256 len code = some (nI e, va_cpy cd code 0 0 e) := by
  have h1 : Int32.toNatClampNeg (nI e) = e := n_cl (by omega)
  have h0 : Int32.toNatClampNeg 0 = 0 := rfl
  have h2 : ¬ ((256 : Int32) < nI e) := by rw [show (256 : Int32) = nI 256 from rfl, n_lt (by omega) (by omega)]; omega
  have h3 : ¬ ((Int32.ofNat 256) < nI e) := h2
  have h4 : ¬ ((0 : Int32) < 0 ∨ (0 : Int32) < 0 ∨ nI e < 0 ∨ 256 < Int32.toNatClampNeg (0 : Int32) + Int32.toNatClampNeg (nI e) ∨ 256 < Int32.toNatClampNeg (0 : Int32) + Int32.toNatClampNeg (nI e)) := by
    rw [h1, h0]
    rintro (z | z | z | z | z)
    · exact absurd z (by decide)
    · exact absurd z (by decide)
    · exact nI_pos (by omega) z
    · omega
    · omega
  unfold f_La_become
  rw [if_neg (nI_pos (by omega)), if_neg h2, if_neg h3, if_neg h4, h1]
  rfl
theorem al_byte {o : Int32} (h : lw_sign o) : ((lw_alike o).1).toInt8.toInt32 = (lw_alike o).1 := by
  rcases h with h | h | rfl | rfl | rfl | rfl | ⟨k, hk, rfl⟩
  · unfold lw_bin at h
    simp only [Bool.or_eq_true, beq_iff_eq] at h
    rcases h with ((((((((rfl | rfl) | rfl) | rfl) | rfl) | rfl) | rfl) | rfl) | rfl) | rfl <;> decide
  · unfold lw_un at h
    simp only [Bool.or_eq_true, beq_iff_eq] at h
    rcases h with rfl | rfl <;> decide
  · decide
  · decide
  · decide
  · decide
  · rw [(sign_num hk).2.2.2]; rfl
theorem ops_sign : ∀ (ls : List (List Int32 × List Int32)), (∀ q ∈ ls, lw_okL q) → ∀ o ∈ lw_ops ls, lw_sign o
  | [], _, o, ho => by rw [lw_ops] at ho; cases ho
  | (t, b) :: ls, h, o, ho => by
    rw [lw_ops, List.mem_append, List.mem_append] at ho
    have h1 := h (t, b) (List.mem_cons_self ..)
    rcases ho with (ho | ho) | ho
    · rcases h1.1 with z | z
      · have z : t = [] := z
        rw [z] at ho; cases ho
      · exact z.2 o ho
    · exact h1.2.2 o ho
    · exact ops_sign ls (fun q hq => h q (List.mem_cons_of_mem _ hq)) o ho
theorem ends_le : ∀ (ls : List (List Int32 × List Int32)) (k j : Nat) (q : Nat × Nat), (lw_ends ls k)[j]? = some q → q.1 ≤ k + (lw_ops ls).length ∧ q.2 ≤ k + (lw_ops ls).length
  | [], k, j, q, h => by rw [lw_ends] at h; simp at h
  | (t, b) :: ls, k, 0, q, h => by
    rw [lw_ends] at h
    have e : (k + t.length, k + t.length + b.length) = q := by simpa using h
    rw [← e, lw_ops, List.length_append, List.length_append]
    exact ⟨by show k + t.length ≤ _; omega, by show k + t.length + b.length ≤ _; omega⟩
  | (t, b) :: ls, k, j + 1, q, h => by
    rw [lw_ends] at h
    have h2 : (lw_ends ls (k + t.length + b.length))[j]? = some q := by simpa using h
    have := ends_le ls _ j q h2
    rw [lw_ops, List.length_append, List.length_append]
    omega
theorem ok_law {t : Nat} {x_L_tape_letters : Nat → Int32} {x_L_tape_length : Int32} {x_M_tape : Nat → Int32} {x_M_taped : Int32} {x_L_rules_askedForLamps : Int32} {x_L_rules_asked_words : Nat → Int64} {x_L_rules_forbidden_words : Nat → Int64} {x_L_rules_law_code : Nat → Int32} {x_L_rules_law_length : Int32} {x_M_hasLaw : Bool} {x_M_act : Nat → Int32} {x_M_with : Nat → Int32} {x_M_lineMany : Nat → Int32} {x_M_testEnd : Nat → Int32} {x_M_lineEnd : Nat → Int32} {x_L_tape_codeLength : Int32} {x_L_tape_at : Int32} {x_L_tape_code : Nat → Int32} {x_M_here : Int32} {x_M_fault : Int32} {x_M_open : Int32} {x_M_laid : Int32} (ht : t < 64)  (hT : R_tape x_L_tape_letters x_L_tape_length x_M_tape x_M_taped) (hG : R_lw x_L_rules_askedForLamps x_L_rules_asked_words x_L_rules_forbidden_words x_L_rules_law_code x_L_rules_law_length x_M_hasLaw x_M_act x_M_with x_M_lineMany x_M_testEnd x_M_lineEnd) : ∃ (r : Int32) (u_L_tape_length : Int32) (u_L_tape_codeLength : Int32) (u_L_tape_at : Int32) (u_L_tape_code : Nat → Int32) (u_L_rules_law_length : Int32) (u_L_rules_law_code : Nat → Int32) (u_L_rules_asked_words : Nat → Int64) (u_M_taped : Int32) (u_M_here : Int32) (u_M_fault : Int32) (u_M_open : Int32) (u_M_laid : Int32) (u_M_hasLaw : Bool) (u_M_lineMany : Nat → Int32) (u_M_testEnd : Nat → Int32) (u_M_act : Nat → Int32) (u_M_with : Nat → Int32) (u_M_lineEnd : Nat → Int32), f_OL_law x_L_tape_length x_L_tape_codeLength x_L_tape_at x_L_tape_letters x_L_tape_code x_L_rules_law_length x_L_rules_law_code x_L_rules_asked_words = some (r, u_L_tape_length, u_L_tape_codeLength, u_L_tape_at, u_L_tape_code, u_L_rules_law_length, u_L_rules_law_code, u_L_rules_asked_words) ∧ f_Mo_law x_M_taped x_M_here x_M_fault x_M_open x_M_laid x_M_hasLaw x_M_lineMany x_M_testEnd x_M_tape x_M_act x_M_with x_M_lineEnd = some (r, u_M_taped, u_M_here, u_M_fault, u_M_open, u_M_laid, u_M_hasLaw, u_M_lineMany, u_M_testEnd, u_M_act, u_M_with, u_M_lineEnd) ∧ R_tape x_L_tape_letters u_L_tape_length x_M_tape u_M_taped ∧ R_lw x_L_rules_askedForLamps u_L_rules_asked_words x_L_rules_forbidden_words u_L_rules_law_code u_L_rules_law_length u_M_hasLaw u_M_act u_M_with u_M_lineMany u_M_testEnd u_M_lineEnd := by
  obtain ⟨k, hk, rfl, rfl, hc0⟩ := hT
  obtain ⟨c, hc⟩ : ∃ c : Nat → Nat, ∀ j, j < k → c j < 256 ∧ x_L_tape_letters j = nI (c j) ∧ x_M_tape j = (nI (c j)).toInt8.toInt32 := ⟨fun j => if h : j < k then (hc0 j h).choose else 0, fun j hj => by
    have := (hc0 j hj).choose_spec
    simp only [dif_pos hj]
    exact this⟩
  obtain ⟨lines, G1, G2, G3, G4, G5, G6, G7, G8, G9, G10, n, hn, G11, G12⟩ := hG
  have hA0 : lw_A [] x_L_tape_code x_M_act x_M_with (upd x_M_lineMany 1 (nI 0)) x_M_testEnd x_M_lineEnd := by
    refine ⟨?_, ?_, ?_, ?_, ?_⟩
    · intro q hq; cases hq
    · intro j x hx
      have hx : ([] : List Int32)[j]? = some x := hx
      simp at hx
    · intro j x hx
      have hx : ([] : List Int32)[j]? = some x := hx
      simp at hx
    · intro j x hx
      have hx : ([] : List (Nat × Nat))[j]? = some x := hx
      simp at hx
    · exact pk_us
  have T := text_both hk hc (act0 := x_M_act) (wi0 := x_M_with) (LM0 := x_M_lineMany) (TE0 := x_M_testEnd) (LE0 := x_M_lineEnd) 120 0 3000 3000 [] x_L_tape_code x_M_act x_M_with (upd x_M_lineMany 1 (nI 0)) x_M_testEnd x_M_lineEnd (by omega) (by omega) (by omega) (by omega) (by decide) (by decide) (by decide) hA0 ⟨fun j hj => ⟨rfl, rfl⟩, fun j hj => ⟨rfl, rfl⟩, pk_un (by omega)⟩
  have hr : R_tape x_L_tape_letters (nI 0) x_M_tape (nI 0) := ⟨0, by omega, rfl, rfl, fun j hj => by omega⟩
  rcases T with ⟨ls, code', act', wi', LM', TE', LE', x, h, e1, e2, e3, ⟨A1, A2, A3, A4, A5⟩, F, rc, rm⟩ | ⟨q, x, y, h, op, la, code', act', wi', LM', TE', LE', hq, rc, rm, F1, F2, F3⟩
  · have rc : f_Ta_read (nI k) x_L_tape_codeLength x_L_tape_at x_L_tape_letters x_L_tape_code = some (-nI 1, nI (lw_enc ls).length, x, code') := rc
    have rm : f_Mo_readText (nI 0) (nI k) x_M_here x_M_fault x_M_open x_M_laid x_M_lineMany x_M_testEnd x_M_tape x_M_act x_M_with x_M_lineEnd = f_Mo_readText_L86 (nI 0) (nI k) h (-nI 1) (nI 0) (nI (lw_ops ls).length) LM' TE' act' wi' LE' := rm
    have hbyte : ∀ z, z < (lw_ops ls).length → (act' (130 + z)).toInt8.toInt32 = act' (130 + z) := fun z hz => by
      have hz2 : (lw_ops ls)[z]? = some ((lw_ops ls)[z]) := List.getElem?_eq_getElem hz
      rw [(A3 z _ hz2).1]
      exact al_byte (ops_sign ls A1 _ (List.getElem_mem hz))
    obtain ⟨act2, wi2, c1, c2, c3⟩ := copy_steps (h := h) (f := -nI 1) (op := nI 0) (LM := LM') (TE := TE') (LE := LE') (show (lw_ops ls).length ≤ 130 by omega) rfl (lw_ops ls).length 0 3000 act' wi' (by omega) (by omega) hbyte
    have hend : ∀ z, z < ls.length → ∃ y w : Nat, y < 32768 ∧ w < 32768 ∧ TE' (61 + z) = nI y ∧ LE' (61 + z) = nI w := fun z hz => by
      have hz2 : z < (lw_ends ls 0).length := by rw [ends_len]; exact hz
      have hz3 : (lw_ends ls 0)[z]? = some ((lw_ends ls 0)[z]) := List.getElem?_eq_getElem hz2
      have hz4 := ends_le ls 0 z _ hz3
      exact ⟨_, _, by omega, by omega, (A4 z _ hz3).1, (A4 z _ hz3).2⟩
    obtain ⟨TE2, LE2, d1, d2, d3⟩ := copy_ends (h := h) (f := -nI 1) (op := nI 0) (la := nI (lw_ops ls).length) (LM := upd LM' 0 (LM' 1)) (act := act2) (wi := wi2) (n := ls.length) (by omega) (by rw [pk_us]; exact A5) ls.length 0 3000 TE' LE' (by omega) (by omega) hend
    have rm2 : f_Mo_readText (nI 0) (nI k) x_M_here x_M_fault x_M_open x_M_laid x_M_lineMany x_M_testEnd x_M_tape x_M_act x_M_with x_M_lineEnd = some (-nI 1, nI 0, h, -nI 1, nI 0, nI (lw_ops ls).length, upd LM' 0 (LM' 1), TE2, act2, wi2, LE2) := by
      rw [rm, f_Mo_readText_L86, if_pos (by decide), ← d1, ← c1]
      rfl
    obtain ⟨w', w1, w2⟩ := pi_empty x_L_rules_asked_words
    refine ⟨_, _, _, _, _, _, _, _, _, _, _, _, _, _, _, _, _, _, _, (?_ : f_OL_law _ _ _ _ _ _ _ _ = some (nI 1, nI 0, nI (lw_enc ls).length, x, code', nI (lw_enc ls).length, va_cpy code' x_L_rules_law_code 0 0 (lw_enc ls).length, w')), (?_ : f_Mo_law _ _ _ _ _ _ _ _ _ _ _ _ = some (nI 1, nI 0, h, -nI 1, nI 0, nI (lw_ops ls).length, true, upd LM' 0 (LM' 1), TE2, act2, wi2, LE2)), hr, ls, A1, (fun z => by cases z), by omega, by omega, by omega, rfl, fun j o hj => ?_, by rw [pk_us]; exact A5, fun j o hj => ?_, fun j q hj => ?_, n, hn, G11, fun q hq hb => ?_⟩
    · have tl : f_Ru_takeLaw (nI (lw_enc ls).length) code' 256 x_L_rules_law_length x_L_rules_law_code x_L_rules_asked_words = some (nI (lw_enc ls).length, va_cpy code' x_L_rules_law_code 0 0 (lw_enc ls).length, w') := by
        unfold f_Ru_takeLaw
        rw [la_become (by omega), Option.bind_some]
        dsimp only
        rw [w1]
        rfl
      rw [f_OL_law, rc, Option.bind_some]
      refine (if_pos rfl).trans ?_
      dsimp only
      rw [tl, Option.bind_some]
      exact if_pos rfl
    · rw [f_Mo_law, show (0 : Int32) = nI 0 from rfl, rm2, Option.bind_some]
      exact if_pos (show -nI 1 < nI 0 by decide)
    · have hl := (List.getElem?_eq_some_iff.mp hj).1
      unfold va_cpy
      rw [if_pos (by omega)]
      have := A2 j o hj
      rw [show 0 + (j - 0) = 0 + j by omega]
      exact this
    · have hl := (List.getElem?_eq_some_iff.mp hj).1
      rw [(c2 j (by omega) hl).1, (c2 j (by omega) hl).2]
      exact A3 j o hj
    · have hl := (List.getElem?_eq_some_iff.mp hj).1
      rw [ends_len] at hl
      rw [(d2 j (by omega) hl).1, (d2 j (by omega) hl).2]
      exact A4 j q hj
    · rw [w2 q hq] at hb
      cases hb
  · have rc : f_Ta_read (nI k) x_L_tape_codeLength x_L_tape_at x_L_tape_letters x_L_tape_code = some (nI q, x, y, code') := rc
    have rm : f_Mo_readText (nI 0) (nI k) x_M_here x_M_fault x_M_open x_M_laid x_M_lineMany x_M_testEnd x_M_tape x_M_act x_M_with x_M_lineEnd = some (nI q, nI 0, h, nI q, op, la, LM', TE', act', wi', LE') := rm
    have hq1 : ¬ (nI q = (-1 : Int32)) := fun z => nI_pos (show q < 2147483648 by omega) (by rw [z]; decide)
    refine ⟨_, _, _, _, _, _, _, _, _, _, _, _, _, _, _, _, _, _, _, (?_ : f_OL_law _ _ _ _ _ _ _ _ = some (-100 - nI q, nI 0, x, y, code', x_L_rules_law_length, x_L_rules_law_code, x_L_rules_asked_words)), (?_ : f_Mo_law _ _ _ _ _ _ _ _ _ _ _ _ = some (-100 - nI q, nI 0, h, nI q, op, la, x_M_hasLaw, LM', TE', act', wi', LE')), hr, lines, G1, G2, G3, G4, G5, G6, G7, by rw [F3]; exact G8, fun j o hj => ?_, fun j r hj => ?_, n, hn, G11, G12⟩
    · rw [f_OL_law, rc, Option.bind_some]
      exact (if_neg hq1).trans (if_neg hq1)
    · rw [f_Mo_law, show (0 : Int32) = nI 0 from rfl, rm, Option.bind_some]
      exact if_neg (nI_pos (show q < 2147483648 by omega))
    · have hl := (List.getElem?_eq_some_iff.mp hj).1
      rw [(F1 j (by omega)).1, (F1 j (by omega)).2]
      exact G9 j o hj
    · have hl := (List.getElem?_eq_some_iff.mp hj).1
      rw [ends_len] at hl
      rw [(F2 j (by omega)).1, (F2 j (by omega)).2]
      exact G10 j r hj
