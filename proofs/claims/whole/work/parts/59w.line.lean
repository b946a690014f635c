/-! PURE: a text read: a line -/
theorem chain {k : Nat} {letters tape : Nat → Int32} {c : Nat → Nat} (hk : k ≤ 120) (hc : ∀ j, j < k → c j < 256 ∧ letters j = nI (c j) ∧ tape j = (nI (c j)).toInt8.toInt32) {F o fM : Nat} (sub : PO k c o (fun cl at_ code => f_Ta_readOperand (f_Ta_readLevel F) 8 (nI o) (nI k) cl at_ letters code) (fun h f op la act wi => f_Mo_operand fM (nI k) h f op la tape act wi)) : PO k c o (fun cl at_ code => f_Ta_readLevel (F + 6) (nI 0) (nI o) (nI k) cl at_ letters code) (fun h f op la act wi => f_Mo_either (f_Mo_operand fM) (nI k) h f op la tape act wi) := by
  have h5 : PO k c o (fun cl at_ code => f_Ta_readLevel (F + 1) (nI 5) (nI o) (nI k) cl at_ letters code) (fun h f op la act wi => f_Mo_operand fM (nI k) h f op la tape act wi) := by
    have e : (fun (cl at_ : Int32) (code : Nat → Int32) => f_Ta_readLevel (F + 1) (nI 5) (nI o) (nI k) cl at_ letters code) = (fun cl at_ code => f_Ta_readOperand (f_Ta_readLevel F) 8 (nI o) (nI k) cl at_ letters code) := by
      funext cl at_ code
      rw [f_Ta_readLevel, f_Ta_readLevel_body, if_neg (by decide)]
      cases f_Ta_readOperand (f_Ta_readLevel F) 8 (nI o) (nI k) cl at_ letters code <;> rfl
    rw [e]; exact sub
  exact lv_either hk hc (lv_both hk hc (lv_compared hk hc (lv_sum hk hc (lv_product hk hc h5))))
theorem opened {k : Nat} {letters tape : Nat → Int32} {c : Nat → Nat} (hk : k ≤ 120) (hc : ∀ j, j < k → c j < 256 ∧ letters j = nI (c j) ∧ tape j = (nI (c j)).toInt8.toInt32) : ∀ (m o F fo fM : Nat), o + m = 6 → 6 * m ≤ F → m + 1 ≤ fo → m + 1 ≤ fM → PO k c o (fun cl at_ code => f_Ta_readOperand (f_Ta_readLevel F) fo (nI o) (nI k) cl at_ letters code) (fun h f op la act wi => f_Mo_operand fM (nI k) h f op la tape act wi) := by
  intro m
  induction m with
  | zero =>
    intro o F fo fM ho hF hfo hfM
    obtain ⟨a, rfl⟩ : ∃ a, fo = a + 1 := ⟨fo - 1, by omega⟩
    obtain ⟨b, rfl⟩ : ∃ b, fM = b + 1 := ⟨fM - 1, by omega⟩
    exact op_operand hk hc (by omega) (fun z => by omega) (fun z => by omega)
  | succ m ih =>
    intro o F fo fM ho hF hfo hfM
    obtain ⟨a, rfl⟩ : ∃ a, fo = a + 1 := ⟨fo - 1, by omega⟩
    obtain ⟨b, rfl⟩ : ∃ b, fM = b + 1 := ⟨fM - 1, by omega⟩
    refine op_operand hk hc (by omega) (fun z => ?_) (fun z => ih (o + 1) F a b (by omega) (by omega) (by omega) (by omega))
    obtain ⟨G, rfl⟩ : ∃ G, F = G + 6 := ⟨F - 6, by omega⟩
    exact chain hk hc (ih (o + 1) G 8 b (by omega) (by omega) (by omega) (by omega))
theorem expr {k : Nat} {letters tape : Nat → Int32} {c : Nat → Nat} (hk : k ≤ 120) (hc : ∀ j, j < k → c j < 256 ∧ letters j = nI (c j) ∧ tape j = (nI (c j)).toInt8.toInt32) : PO k c 0 (fun cl at_ code => f_Ta_readLevel 44 (nI 0) (nI 0) (nI k) cl at_ letters code) (fun h f op la act wi => f_Mo_either (f_Mo_operand 9) (nI k) h f op la tape act wi) :=
  chain (F := 38) hk hc (opened hk hc 6 0 38 8 9 (by omega) (by omega) (by omega) (by omega))
theorem sho {x : Nat} (h : x < 32768) : vp_nar .short (Int16.toInt32 (Int32.toInt16 (nI x))) = nI x := by
  have h1 : (nI x).toInt = x := nI_toInt (by omega)
  have e : (nI x).toInt16.toInt32 = nI x := fb_short (by rw [h1]; omega) (by rw [h1]; omega)
  show (Int16.toInt32 (Int32.toInt16 (nI x))).toInt16.toInt32 = nI x
  rw [e, e]
theorem okE_ne {e : List Int32} (h : lw_okE e) : e ≠ [] := by
  rintro rfl
  have h1 := h.1
  rw [lw_dep] at h1
  cases h1
theorem enc_one_nil (b : List Int32) : lw_enc [([], b)] = b ++ [-nI 59] := by
  rw [lw_enc, lw_enc, if_pos rfl, List.nil_append, List.append_nil]; rfl
theorem enc_one {t : List Int32} (h : t ≠ []) (b : List Int32) : lw_enc [(t, b)] = t ++ [-nI 63] ++ b ++ [-nI 59] := by
  rw [lw_enc, lw_enc, if_neg h, List.append_nil]; rfl
def lnO (k : Nat) (i cl ld n : Nat) (code act wi LM TE LE : Nat → Int32) (rc : Option (Bool × Int32 × Int32 × (Nat → Int32))) (rm : Option (Int32 × Int32 × Int32 × Int32 × (Nat → Int32) × (Nat → Int32) × (Nat → Int32) × (Nat → Int32) × (Nat → Int32))) : Prop :=
  ∃ (t b : List Int32) (i' : Nat), lw_okL (t, b) ∧ i < i' ∧ i' ≤ k ∧ i + (lw_enc [(t, b)]).length ≤ i' + 1 ∧ i + (t ++ b).length ≤ i' ∧ ∃ code' act' wi' TE' : Nat → Int32, rc = some (true, nI (cl + (lw_enc [(t, b)]).length), nI i', code') ∧ rm = some (nI i', -nI 1, nI 0, nI (ld + (t ++ b).length), upd LM 1 (nI (n + 1)), TE', act', wi', upd LE (61 + n) (nI (ld + t.length + b.length))) ∧ (∀ j, j < cl → code' j = code j) ∧ ha code' cl (lw_enc [(t, b)]) ∧ (∀ j, j < 130 + ld → act' j = act j ∧ wi' j = wi j) ∧ hm act' wi' (130 + ld) (t ++ b) ∧ TE' (61 + n) = nI (ld + t.length) ∧ ∀ j, j ≠ 61 + n → TE' j = TE j
def lnF (k : Nat) (c : Nat → Nat) (ld n : Nat) (act wi LM TE LE : Nat → Int32) (rc : Option (Bool × Int32 × Int32 × (Nat → Int32))) (rm : Option (Int32 × Int32 × Int32 × Int32 × (Nat → Int32) × (Nat → Int32) × (Nat → Int32) × (Nat → Int32) × (Nat → Int32))) : Prop :=
  ∃ (q h : Nat) (r : Bool) (cl' op' la' : Int32) (code' act' wi' LM' TE' LE' : Nat → Int32), q ≤ k ∧ rc = some (r, cl', nI q, code') ∧ (r = true → q < k ∧ 48 ≤ c q ∧ c q ≤ 57) ∧ rm = some (nI h, nI q, op', la', LM', TE', act', wi', LE') ∧ (∀ j, j < 130 + ld → act' j = act j ∧ wi' j = wi j) ∧ (∀ j, j < 61 → TE' j = TE j ∧ LE' j = LE j) ∧ LM' 0 = LM 0
theorem line_both {k : Nat} {letters tape : Nat → Int32} {c : Nat → Nat} (hk : k ≤ 120) (hc : ∀ j, j < k → c j < 256 ∧ letters j = nI (c j) ∧ tape j = (nI (c j)).toInt8.toInt32) {i cl ld n : Nat} {code act wi LM TE LE : Nat → Int32} (hi : i ≤ k) (hcl : cl ≤ i) (hld : ld ≤ i) (hn : 2 * n ≤ i) (hL : LM 1 = nI n) : lnO k i cl ld n code act wi LM TE LE (f_Ta_readLine (nI k) (nI cl) (nI i) letters code) (f_Mo_line (nI k) (nI i) (-nI 1) (nI 0) (nI ld) LM TE tape act wi LE) ∨ lnF k c ld n act wi LM TE LE (f_Ta_readLine (nI k) (nI cl) (nI i) letters code) (f_Mo_line (nI k) (nI i) (-nI 1) (nI 0) (nI ld) LM TE tape act wi LE) := by
  have ex := expr hk hc
  rcases ex i cl ld code act wi hi hcl hld with ⟨e, i1, ok1, ok2, ok3, ok4, code1, act1, wi1, g1, g2, g3, g4, g5, g6⟩ | ⟨q, h, ld', r, cl', op', code1, act1, wi1, b1, b2, b3, b4, b5, b6, b7, b8⟩
  rotate_left
  · have b5 : f_Ta_readLevel 44 (nI 0) (nI 0) (nI k) (nI cl) (nI i) letters code = some (r, cl', nI q, code1) := b5
    have b7 : f_Mo_either (f_Mo_operand 9) (nI k) (nI i) (-nI 1) (nI 0) (nI ld) tape act wi = some (nI h, nI q, op', nI ld', act1, wi1) := b7
    have hm1 : f_Mo_line (nI k) (nI i) (-nI 1) (nI 0) (nI ld) LM TE tape act wi LE = some (nI h, nI q, op', nI ld', upd LM 1 (nI (n + 1)), upd TE (61 + n) (nI ld), act1, wi1, upd LE (61 + n) (nI ld')) := by
      rw [f_Mo_line, b7]
      simp (disch := omega) only [n_lt, n_le, n_eq, n_cl, n_sub, nI_add, pk_mul, n_subL, n_Lsub, n_neN, n_Nne, n_leN, n_ltN, n_Nlt, n_Nle, le_T, le_F, lt_T, lt_F, eq_T, eq_F, true_or, or_true, false_or, or_false, true_and, and_true, false_and, and_false, and_self, or_self, not_true_eq_false, not_false_eq_true, decide_eq_true_eq, decide_true, decide_false, Bool.false_eq_true, Bool.true_eq_false, eq_self, ↓reduceIte, Option.bind_some, mo_in, lit_0, lit_1, lit_2, lit_3, lit_4, lit_5, lit_6, lit_7, lit_8, lit_9, lit_10, lit_11, lit_12, lit_13, lit_14, lit_15, lit_16, lit_20, lit_22, lit_24, lit_28, lit_30, lit_31, lit_32, lit_39, lit_40, lit_42, lit_48, lit_50, lit_57, lit_60, lit_61, lit_62, lit_63, lit_64, lit_100, lit_120, lit_121, lit_122, lit_128, lit_130, lit_255, lit_256, lit_360, lit_1024, lit_2147483647, m1_pred, Nat.add_sub_cancel, lit_124, lit_38, lit_37, lit_33, lit_126, lit_59, lit_112, lit_108, lit_110, lit_104, lit_47, lit_43, lit_45, lit_41, lit_123, lit_49, lit_58, lit_68, hL, f_Mo_line_L66, sho]
    have fr : ∀ j, j < 61 → upd TE (61 + n) (nI ld) j = TE j ∧ upd LE (61 + n) (nI ld') j = LE j := fun j hj => ⟨pk_un (by omega), pk_un (by omega)⟩
    cases r with
    | false =>
      refine Or.inr ⟨q, h, false, cl', op', nI ld', code1, act1, wi1, _, _, _, b1, ?_, fun z => (by cases z), hm1, b8, fr, pk_un (by omega)⟩
      rw [f_Ta_readLine, show (0 : Int32) = nI 0 from rfl, b5]; rfl
    | true =>
      obtain ⟨d1, d2, d3⟩ := b6 rfl
      obtain ⟨ga, gb, gw⟩ := ta_write_any (-nI 59) cl' code1
      refine Or.inr ⟨q, h, true, ga, op', nI ld', gb, act1, wi1, _, _, _, b1, ?_, b6, hm1, b8, fr, pk_un (by omega)⟩
      obtain ⟨lc, lm, s1, s2, s3⟩ := see hk hc b1
      rcases s3 with ⟨m, hm, hlt, hcm, rfl, rfl⟩ | ⟨o1, o2, o3⟩
      · have z1 : (nI m = nI 63) = False := by rw [n_eq (by omega) (by omega)]; exact eq_false (by omega)
        rw [f_Ta_readLine, show (0 : Int32) = nI 0 from rfl, b5]
        simp (disch := omega) only [n_lt, n_le, n_eq, n_cl, n_sub, nI_add, pk_mul, n_subL, n_Lsub, n_neN, n_Nne, n_leN, n_ltN, n_Nlt, n_Nle, le_T, le_F, lt_T, lt_F, eq_T, eq_F, true_or, or_true, false_or, or_false, true_and, and_true, false_and, and_false, and_self, or_self, not_true_eq_false, not_false_eq_true, decide_eq_true_eq, decide_true, decide_false, Bool.false_eq_true, Bool.true_eq_false, eq_self, ↓reduceIte, Option.bind_some, mo_in, lit_0, lit_1, lit_2, lit_3, lit_4, lit_5, lit_6, lit_7, lit_8, lit_9, lit_10, lit_11, lit_12, lit_13, lit_14, lit_15, lit_16, lit_20, lit_22, lit_24, lit_28, lit_30, lit_31, lit_32, lit_39, lit_40, lit_42, lit_48, lit_50, lit_57, lit_60, lit_61, lit_62, lit_63, lit_64, lit_100, lit_120, lit_121, lit_122, lit_128, lit_130, lit_255, lit_256, lit_360, lit_1024, lit_2147483647, m1_pred, Nat.add_sub_cancel, lit_124, lit_38, lit_37, lit_33, lit_126, lit_59, lit_112, lit_108, lit_110, lit_104, lit_47, lit_43, lit_45, lit_41, lit_123, lit_49, lit_58, lit_68, s1, z1, f_Ta_readLine_L47, gw]
      · omega
  have g1 : f_Ta_readLevel 44 (nI 0) (nI 0) (nI k) (nI cl) (nI i) letters code = some (true, nI (cl + e.length), nI i1, code1) := g1
  have g2 : f_Mo_either (f_Mo_operand 9) (nI k) (nI i) (-nI 1) (nI 0) (nI ld) tape act wi = some (nI i1, -nI 1, nI 0, nI (ld + e.length), act1, wi1) := g2
  obtain ⟨lc, lm, s1, s2, s3⟩ := see hk hc ok3
  have one : (lc = nI 63) = False → (lm = nI 63) = False → lnO k i cl ld n code act wi LM TE LE (f_Ta_readLine (nI k) (nI cl) (nI i) letters code) (f_Mo_line (nI k) (nI i) (-nI 1) (nI 0) (nI ld) LM TE tape act wi LE) := by
    intro z1 z2
    have hlen : (lw_enc [([], e)]).length = e.length + 1 := by rw [enc_one_nil]; simp
    refine ⟨[], e, i1, ⟨Or.inl rfl, ok1⟩, ok2, ok3, by rw [hlen]; omega, by rw [List.nil_append]; omega, upd code1 (cl + e.length) (-nI 59), act1, wi1, upd TE (61 + n) (nI ld), ?_, ?_, fun j hj => by rw [pk_un (by omega)]; exact g3 j hj, by rw [enc_one_nil]; exact ha_snoc g4, g5, g6, pk_us, fun j hj => pk_un hj⟩
    · rw [f_Ta_readLine, show (0 : Int32) = nI 0 from rfl, g1, hlen]
      simp (disch := omega) only [n_lt, n_le, n_eq, n_cl, n_sub, nI_add, pk_mul, n_subL, n_Lsub, n_neN, n_Nne, n_leN, n_ltN, n_Nlt, n_Nle, le_T, le_F, lt_T, lt_F, eq_T, eq_F, true_or, or_true, false_or, or_false, true_and, and_true, false_and, and_false, and_self, or_self, not_true_eq_false, not_false_eq_true, decide_eq_true_eq, decide_true, decide_false, Bool.false_eq_true, Bool.true_eq_false, eq_self, ↓reduceIte, Option.bind_some, mo_in, lit_0, lit_1, lit_2, lit_3, lit_4, lit_5, lit_6, lit_7, lit_8, lit_9, lit_10, lit_11, lit_12, lit_13, lit_14, lit_15, lit_16, lit_20, lit_22, lit_24, lit_28, lit_30, lit_31, lit_32, lit_39, lit_40, lit_42, lit_48, lit_50, lit_57, lit_60, lit_61, lit_62, lit_63, lit_64, lit_100, lit_120, lit_121, lit_122, lit_128, lit_130, lit_255, lit_256, lit_360, lit_1024, lit_2147483647, m1_pred, Nat.add_sub_cancel, lit_124, lit_38, lit_37, lit_33, lit_126, lit_59, lit_112, lit_108, lit_110, lit_104, lit_47, lit_43, lit_45, lit_41, lit_123, lit_49, lit_58, lit_68, s1, z1, f_Ta_readLine_L47, ta_write (show cl + e.length < 256 by omega)]
      rfl
    · rw [f_Mo_line, g2]
      simp (disch := omega) only [n_lt, n_le, n_eq, n_cl, n_sub, nI_add, pk_mul, n_subL, n_Lsub, n_neN, n_Nne, n_leN, n_ltN, n_Nlt, n_Nle, le_T, le_F, lt_T, lt_F, eq_T, eq_F, true_or, or_true, false_or, or_false, true_and, and_true, false_and, and_false, and_self, or_self, not_true_eq_false, not_false_eq_true, decide_eq_true_eq, decide_true, decide_false, Bool.false_eq_true, Bool.true_eq_false, eq_self, ↓reduceIte, Option.bind_some, mo_in, lit_0, lit_1, lit_2, lit_3, lit_4, lit_5, lit_6, lit_7, lit_8, lit_9, lit_10, lit_11, lit_12, lit_13, lit_14, lit_15, lit_16, lit_20, lit_22, lit_24, lit_28, lit_30, lit_31, lit_32, lit_39, lit_40, lit_42, lit_48, lit_50, lit_57, lit_60, lit_61, lit_62, lit_63, lit_64, lit_100, lit_120, lit_121, lit_122, lit_128, lit_130, lit_255, lit_256, lit_360, lit_1024, lit_2147483647, m1_pred, Nat.add_sub_cancel, lit_124, lit_38, lit_37, lit_33, lit_126, lit_59, lit_112, lit_108, lit_110, lit_104, lit_47, lit_43, lit_45, lit_41, lit_123, lit_49, lit_58, lit_68, hL, f_Mo_line_L66, sho, s2, z2, List.nil_append, List.length_nil, Nat.add_zero]
  rcases s3 with ⟨m, hm128, hlt, hcm, rfl, rfl⟩ | ⟨o1, o2, _⟩
  rotate_left
  · exact Or.inl (one (o1.1 63 (by omega)) (o2.1 63 (by omega)))
  by_cases h63 : m = 63
  rotate_left
  · have z1 : (nI m = nI 63) = False := by rw [n_eq (by omega) (by omega)]; exact eq_false h63
    exact Or.inl (one z1 z1)
  subst h63
  rcases ex (i1 + 1) (cl + e.length + 1) (ld + e.length) (upd code1 (cl + e.length) (-nI 63)) act1 wi1 (by omega) (by omega) (by omega) with ⟨e2, i2, pk1, pk2, pk3, pk4, code2, act2, wi2, k1, k2, k3, k4, k5, k6⟩ | ⟨q, h, ld', r, cl', op', code2, act2, wi2, b1, b2, b3, b4, b5, b6, b7, b8⟩
  · refine Or.inl ?_
    have k1 : f_Ta_readLevel 44 (nI 0) (nI 0) (nI k) (nI (cl + e.length + 1)) (nI (i1 + 1)) letters (upd code1 (cl + e.length) (-nI 63)) = some (true, nI (cl + e.length + 1 + e2.length), nI i2, code2) := k1
    have k2 : f_Mo_either (f_Mo_operand 9) (nI k) (nI (i1 + 1)) (-nI 1) (nI 0) (nI (ld + e.length)) tape act1 wi1 = some (nI i2, -nI 1, nI 0, nI (ld + e.length + e2.length), act2, wi2) := k2
    have hne := okE_ne ok1
    have hlen : (lw_enc [(e, e2)]).length = e.length + 1 + e2.length + 1 := by rw [enc_one hne]; simp; omega
    have hlen2 : (e ++ e2).length = e.length + e2.length := by simp
    have hlen3 : (e ++ [-nI 63]).length = e.length + 1 := by simp
    have hlen4 : (e ++ [-nI 63] ++ e2).length = e.length + 1 + e2.length := by simp; omega
    have c1 := ha_snoc (s := -nI 59) (ha_app (b := e2) (g := code2) (ha_snoc (s := -nI 63) g4) (by rw [hlen3]; exact k4) (fun j hj => by rw [hlen3] at hj; exact k3 j (by omega)))
    rw [hlen4] at c1
    refine ⟨e, e2, i2, ⟨Or.inr ok1, pk1⟩, by omega, pk3, by rw [hlen]; omega, by rw [hlen2]; omega, upd code2 (cl + (e.length + 1 + e2.length)) (-nI 59), act2, wi2, upd (upd TE (61 + n) (nI ld)) (61 + n) (nI (ld + e.length)), ?_, ?_, fun j hj => by rw [pk_un (by omega), k3 j (by omega), pk_un (by omega)]; exact g3 j hj, by rw [enc_one hne]; exact c1, fun j hj => by rw [(k5 j (by omega)).1, (k5 j (by omega)).2]; exact g5 j hj, hm_app g6 (by rw [show 130 + ld + e.length = 130 + (ld + e.length) by omega]; exact k6) (fun j hj => k5 j (by omega)), pk_us, fun j hj => by rw [pk_un hj, pk_un hj]⟩
    · rw [f_Ta_readLine, show (0 : Int32) = nI 0 from rfl, g1, hlen, show cl + (e.length + 1 + e2.length + 1) = cl + e.length + 1 + e2.length + 1 by omega, show cl + (e.length + 1 + e2.length) = cl + e.length + 1 + e2.length by omega]
      simp (disch := omega) only [n_lt, n_le, n_eq, n_cl, n_sub, nI_add, pk_mul, n_subL, n_Lsub, n_neN, n_Nne, n_leN, n_ltN, n_Nlt, n_Nle, le_T, le_F, lt_T, lt_F, eq_T, eq_F, true_or, or_true, false_or, or_false, true_and, and_true, false_and, and_false, and_self, or_self, not_true_eq_false, not_false_eq_true, decide_eq_true_eq, decide_true, decide_false, Bool.false_eq_true, Bool.true_eq_false, eq_self, ↓reduceIte, Option.bind_some, mo_in, lit_0, lit_1, lit_2, lit_3, lit_4, lit_5, lit_6, lit_7, lit_8, lit_9, lit_10, lit_11, lit_12, lit_13, lit_14, lit_15, lit_16, lit_20, lit_22, lit_24, lit_28, lit_30, lit_31, lit_32, lit_39, lit_40, lit_42, lit_48, lit_50, lit_57, lit_60, lit_61, lit_62, lit_63, lit_64, lit_100, lit_120, lit_121, lit_122, lit_128, lit_130, lit_255, lit_256, lit_360, lit_1024, lit_2147483647, m1_pred, Nat.add_sub_cancel, lit_124, lit_38, lit_37, lit_33, lit_126, lit_59, lit_112, lit_108, lit_110, lit_104, lit_47, lit_43, lit_45, lit_41, lit_123, lit_49, lit_58, lit_68, s1, f_Ta_readLine_L47, ta_write (show cl + e.length < 256 by omega), k1, ta_write (show cl + e.length + 1 + e2.length < 256 by omega)]
    · rw [f_Mo_line, g2, hlen2]
      simp (disch := omega) only [n_lt, n_le, n_eq, n_cl, n_sub, nI_add, pk_mul, n_subL, n_Lsub, n_neN, n_Nne, n_leN, n_ltN, n_Nlt, n_Nle, le_T, le_F, lt_T, lt_F, eq_T, eq_F, true_or, or_true, false_or, or_false, true_and, and_true, false_and, and_false, and_self, or_self, not_true_eq_false, not_false_eq_true, decide_eq_true_eq, decide_true, decide_false, Bool.false_eq_true, Bool.true_eq_false, eq_self, ↓reduceIte, Option.bind_some, mo_in, lit_0, lit_1, lit_2, lit_3, lit_4, lit_5, lit_6, lit_7, lit_8, lit_9, lit_10, lit_11, lit_12, lit_13, lit_14, lit_15, lit_16, lit_20, lit_22, lit_24, lit_28, lit_30, lit_31, lit_32, lit_39, lit_40, lit_42, lit_48, lit_50, lit_57, lit_60, lit_61, lit_62, lit_63, lit_64, lit_100, lit_120, lit_121, lit_122, lit_128, lit_130, lit_255, lit_256, lit_360, lit_1024, lit_2147483647, m1_pred, Nat.add_sub_cancel, lit_124, lit_38, lit_37, lit_33, lit_126, lit_59, lit_112, lit_108, lit_110, lit_104, lit_47, lit_43, lit_45, lit_41, lit_123, lit_49, lit_58, lit_68, hL, f_Mo_line_L66, sho, s2, k2, Nat.add_assoc]
  · refine Or.inr ?_
    have b5 : f_Ta_readLevel 44 (nI 0) (nI 0) (nI k) (nI (cl + e.length + 1)) (nI (i1 + 1)) letters (upd code1 (cl + e.length) (-nI 63)) = some (r, cl', nI q, code2) := b5
    have b7 : f_Mo_either (f_Mo_operand 9) (nI k) (nI (i1 + 1)) (-nI 1) (nI 0) (nI (ld + e.length)) tape act1 wi1 = some (nI h, nI q, op', nI ld', act2, wi2) := b7
    have hm1 : f_Mo_line (nI k) (nI i) (-nI 1) (nI 0) (nI ld) LM TE tape act wi LE = some (nI h, nI q, op', nI ld', upd LM 1 (nI (n + 1)), upd (upd TE (61 + n) (nI ld)) (61 + n) (nI (ld + e.length)), act2, wi2, upd LE (61 + n) (nI ld')) := by
      rw [f_Mo_line, g2]
      simp (disch := omega) only [n_lt, n_le, n_eq, n_cl, n_sub, nI_add, pk_mul, n_subL, n_Lsub, n_neN, n_Nne, n_leN, n_ltN, n_Nlt, n_Nle, le_T, le_F, lt_T, lt_F, eq_T, eq_F, true_or, or_true, false_or, or_false, true_and, and_true, false_and, and_false, and_self, or_self, not_true_eq_false, not_false_eq_true, decide_eq_true_eq, decide_true, decide_false, Bool.false_eq_true, Bool.true_eq_false, eq_self, ↓reduceIte, Option.bind_some, mo_in, lit_0, lit_1, lit_2, lit_3, lit_4, lit_5, lit_6, lit_7, lit_8, lit_9, lit_10, lit_11, lit_12, lit_13, lit_14, lit_15, lit_16, lit_20, lit_22, lit_24, lit_28, lit_30, lit_31, lit_32, lit_39, lit_40, lit_42, lit_48, lit_50, lit_57, lit_60, lit_61, lit_62, lit_63, lit_64, lit_100, lit_120, lit_121, lit_122, lit_128, lit_130, lit_255, lit_256, lit_360, lit_1024, lit_2147483647, m1_pred, Nat.add_sub_cancel, lit_124, lit_38, lit_37, lit_33, lit_126, lit_59, lit_112, lit_108, lit_110, lit_104, lit_47, lit_43, lit_45, lit_41, lit_123, lit_49, lit_58, lit_68, hL, f_Mo_line_L66, sho, s2, b7]
    have fr : ∀ j, j < 61 → upd (upd TE (61 + n) (nI ld)) (61 + n) (nI (ld + e.length)) j = TE j ∧ upd LE (61 + n) (nI ld') j = LE j := fun j hj => ⟨by rw [pk_un (by omega), pk_un (by omega)], pk_un (by omega)⟩
    have b8' : ∀ j, j < 130 + ld → act2 j = act j ∧ wi2 j = wi j := fun j hj => by rw [(b8 j (by omega)).1, (b8 j (by omega)).2]; exact g5 j hj
    cases r with
    | false =>
      refine ⟨q, h, false, cl', op', nI ld', code2, act2, wi2, _, _, _, b1, ?_, fun z => (by cases z), hm1, b8', fr, pk_un (by omega)⟩
      rw [f_Ta_readLine, show (0 : Int32) = nI 0 from rfl, g1]
      simp (disch := omega) only [n_lt, n_le, n_eq, n_cl, n_sub, nI_add, pk_mul, n_subL, n_Lsub, n_neN, n_Nne, n_leN, n_ltN, n_Nlt, n_Nle, le_T, le_F, lt_T, lt_F, eq_T, eq_F, true_or, or_true, false_or, or_false, true_and, and_true, false_and, and_false, and_self, or_self, not_true_eq_false, not_false_eq_true, decide_eq_true_eq, decide_true, decide_false, Bool.false_eq_true, Bool.true_eq_false, eq_self, ↓reduceIte, Option.bind_some, mo_in, lit_0, lit_1, lit_2, lit_3, lit_4, lit_5, lit_6, lit_7, lit_8, lit_9, lit_10, lit_11, lit_12, lit_13, lit_14, lit_15, lit_16, lit_20, lit_22, lit_24, lit_28, lit_30, lit_31, lit_32, lit_39, lit_40, lit_42, lit_48, lit_50, lit_57, lit_60, lit_61, lit_62, lit_63, lit_64, lit_100, lit_120, lit_121, lit_122, lit_128, lit_130, lit_255, lit_256, lit_360, lit_1024, lit_2147483647, m1_pred, Nat.add_sub_cancel, lit_124, lit_38, lit_37, lit_33, lit_126, lit_59, lit_112, lit_108, lit_110, lit_104, lit_47, lit_43, lit_45, lit_41, lit_123, lit_49, lit_58, lit_68, s1, ta_write (show cl + e.length < 256 by omega), b5]
    | true =>
      obtain ⟨ga, gb, gw⟩ := ta_write_any (-nI 59) cl' code2
      refine ⟨q, h, true, ga, op', nI ld', gb, act2, wi2, _, _, _, b1, ?_, b6, hm1, b8', fr, pk_un (by omega)⟩
      rw [f_Ta_readLine, show (0 : Int32) = nI 0 from rfl, g1]
      simp (disch := omega) only [n_lt, n_le, n_eq, n_cl, n_sub, nI_add, pk_mul, n_subL, n_Lsub, n_neN, n_Nne, n_leN, n_ltN, n_Nlt, n_Nle, le_T, le_F, lt_T, lt_F, eq_T, eq_F, true_or, or_true, false_or, or_false, true_and, and_true, false_and, and_false, and_self, or_self, not_true_eq_false, not_false_eq_true, decide_eq_true_eq, decide_true, decide_false, Bool.false_eq_true, Bool.true_eq_false, eq_self, ↓reduceIte, Option.bind_some, mo_in, lit_0, lit_1, lit_2, lit_3, lit_4, lit_5, lit_6, lit_7, lit_8, lit_9, lit_10, lit_11, lit_12, lit_13, lit_14, lit_15, lit_16, lit_20, lit_22, lit_24, lit_28, lit_30, lit_31, lit_32, lit_39, lit_40, lit_42, lit_48, lit_50, lit_57, lit_60, lit_61, lit_62, lit_63, lit_64, lit_100, lit_120, lit_121, lit_122, lit_128, lit_130, lit_255, lit_256, lit_360, lit_1024, lit_2147483647, m1_pred, Nat.add_sub_cancel, lit_124, lit_38, lit_37, lit_33, lit_126, lit_59, lit_112, lit_108, lit_110, lit_104, lit_47, lit_43, lit_45, lit_41, lit_123, lit_49, lit_58, lit_68, s1, ta_write (show cl + e.length < 256 by omega), b5, f_Ta_readLine_L47, gw]
