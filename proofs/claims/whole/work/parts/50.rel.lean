/-! THE RELATION of the two states: class's contents, then the model's -/
def bitw (w : Nat → Int64) (q : Nat) : Bool := (w (q / 64)).toBitVec.getLsbD (q % 64)
/-- the wall, the nights; t: how many calls there were at most -/
def R_wall (t : Nat) (lamps picture night spent : Int32) (had told : Nat → Int64) (last often : Nat → Int32) (mlamps mat mnight mspent : Int32) (mhad mtold : Nat → Int32) (mlast moften : Nat → Int32) (hb : Bool) : Prop :=
  (∃ n p k : Nat, 1 ≤ n ∧ n ≤ 10 ∧ p < 2 ^ n ∧ k ≤ t ∧ lamps = nI n ∧ picture = nI p ∧ night = nI k ∧ bitw had p = true ∧ ∀ q, 2 ^ n ≤ q → q < 1024 → bitw had q = false) ∧
  mlamps = lamps ∧ mat = picture ∧ mnight = night ∧ mspent = spent ∧ (∀ q, q < 1024 → mtold q = b2i (bitw told q)) ∧
  (∀ j, j < 10 → mlast j = last j ∧ moften j = often j ∧ (last j = -2 ∨ ∃ c, c ≤ t ∧ last j = nI c)) ∧
  ((hb = true ∧ ∀ q, q < 1024 → mhad q = b2i (bitw had q)) ∨ (hb = false ∧ picture = 0 ∧ night = 0 ∧ spent = 0 ∧ (∀ j, j < 10 → last j = -2 ∧ often j = 0) ∧ ∀ q, q < 1024 → bitw had q = decide (q = 0)))
theorem R_wall_mono {t : Nat} {lamps picture night spent : Int32} {had told : Nat → Int64} {last often : Nat → Int32} {mlamps mat mnight mspent : Int32} {mhad mtold : Nat → Int32} {mlast moften : Nat → Int32} {hb : Bool} (h : R_wall t lamps picture night spent had told last often mlamps mat mnight mspent mhad mtold mlast moften hb) : R_wall (t + 1) lamps picture night spent had told last often mlamps mat mnight mspent mhad mtold mlast moften hb := by
  obtain ⟨⟨n, p, k, h1, h2, h3, h4, h5⟩, h6, h7, h8, h9, h10, h11, h12⟩ := h
  refine ⟨⟨n, p, k, h1, h2, h3, by omega, h5⟩, h6, h7, h8, h9, h10, fun j hj => ?_, h12⟩
  obtain ⟨a, b, c⟩ := h11 j hj
  refine ⟨a, b, ?_⟩
  rcases c with c | ⟨x, hx, c⟩
  · exact Or.inl c
  · exact Or.inr ⟨x, by omega, c⟩
def R_image (t : Nat) (kept : Bool) (lamps picture night spent : Int32) (had told : Nat → Int64) (last often : Nat → Int32) (mkept : Bool) (mlamps mat mnight mspent : Int32) (mhad mtold : Nat → Int32) (mlast moften : Nat → Int32) (hb : Bool) : Prop :=
  mkept = kept ∧ (kept = true → hb = true ∧ R_wall t lamps picture night spent had told last often mlamps mat mnight mspent mhad mtold mlast moften true)
theorem R_image_mono {t : Nat} {kept : Bool} {lamps picture night spent : Int32} {had told : Nat → Int64} {last often : Nat → Int32} {mkept : Bool} {mlamps mat mnight mspent : Int32} {mhad mtold : Nat → Int32} {mlast moften : Nat → Int32} {hb hb' : Bool} (h : R_image t kept lamps picture night spent had told last often mkept mlamps mat mnight mspent mhad mtold mlast moften hb) (hh : hb = true → hb' = true) : R_image (t + 1) kept lamps picture night spent had told last often mkept mlamps mat mnight mspent mhad mtold mlast moften hb' :=
  ⟨h.1, fun z => ⟨hh (h.2 z).1, R_wall_mono (h.2 z).2⟩⟩
def R_set (rest shy mrest mshy : Int32) : Prop := mrest = rest ∧ mshy = shy
/-! the law: a text read is a list of lines; of each the test (empty: none) and what counts, as signs: 0 on numbers, below 0 what is done -/
def lw_alike (o : Int32) : Int32 × Int32 := if 0 ≤ o then (1, o) else if o = -112 then (2, 0) else if o = -108 then (2, 1) else if o = -110 then (2, 2) else if o = -104 then (2, 3) else if o = -33 then (3, 0) else if o = -126 then (4, 0) else (-o, 0)
def lw_bits (p : Nat) : Nat → Nat
  | 0 => 0
  | n + 1 => lw_bits p n + (if p.testBit n then 1 else 0)
def lw_hi (p : Nat) : Nat := if p = 0 then 0 else Nat.log2 p + 1
/-- what an operand's sign stands for, with n lamps and the picture p -/
def lw_env (n p : Nat) (o : Int32) : Int32 := if o = -112 then nI p else if o = -108 then nI (lw_bits p 10) else if o = -110 then nI n else if o = -104 then nI (lw_hi p) else o
def lw_un (o : Int32) : Bool := o == -33 || o == -126
def lw_bin (o : Int32) : Bool := o == -124 || o == -38 || o == -60 || o == -61 || o == -62 || o == -43 || o == -45 || o == -42 || o == -47 || o == -37
def lw_one (o b : Int32) : Int32 := if o = -33 then (if b = 0 then 1 else 0) else -b
def lw_two (o a b : Int32) : Int32 :=
  if o = -124 then (if a ≠ 0 ∨ b ≠ 0 then 1 else 0) else if o = -38 then (if a ≠ 0 ∧ b ≠ 0 then 1 else 0) else if o = -60 then (if a < b then 1 else 0) else if o = -61 then (if a = b then 1 else 0) else if o = -62 then (if b < a then 1 else 0)
  else if o = -43 then a + b else if o = -45 then a - b else if o = -42 then a * b else if o = -47 then (if b = 0 then 0 else a / b) else (if b = 0 then 0 else a - a / b * b)
def lw_do (env : Int32 → Int32) (st : List Int32) (o : Int32) : List Int32 := if lw_bin o then (match st with | b :: a :: r => lw_two o a b :: r | _ => st) else if lw_un o then (match st with | b :: r => lw_one o b :: r | _ => st) else env o :: st
def lw_val (env : Int32 → Int32) (ops : List Int32) : Int32 := (ops.foldl (lw_do env) []).headD 0
def lw_lines (env : Int32 → Int32) : List (List Int32 × List Int32) → Int32
  | [] => 0
  | (t, b) :: r => if t = [] then lw_val env b else if lw_val env t ≠ 0 then lw_val env b else lw_lines env r
/-- how many values lie behind the signs, none ever wanting -/
def lw_dep : List Int32 → Nat → Option Nat
  | [], d => some d
  | o :: r, d => if lw_bin o then (if d < 2 then none else lw_dep r (d - 1)) else if lw_un o then (if d < 1 then none else lw_dep r d) else lw_dep r (d + 1)
/-- a sign that the reader writes -/
def lw_sign (o : Int32) : Prop := lw_bin o = true ∨ lw_un o = true ∨ o = -112 ∨ o = -108 ∨ o = -110 ∨ o = -104 ∨ ∃ k : Nat, k < 10000 ∧ o = nI k
def lw_okE (e : List Int32) : Prop := lw_dep e 0 = some 1 ∧ ∀ o ∈ e, lw_sign o
def lw_okL (q : List Int32 × List Int32) : Prop := (q.1 = [] ∨ lw_okE q.1) ∧ lw_okE q.2
def lw_enc : List (List Int32 × List Int32) → List Int32
  | [] => []
  | (t, b) :: r => (if t = [] then [] else t ++ [-63]) ++ b ++ [-59] ++ lw_enc r
def lw_ops : List (List Int32 × List Int32) → List Int32
  | [] => []
  | (t, b) :: r => t ++ b ++ lw_ops r
/-- the line's end, and its test's, counted in operations from k on -/
def lw_ends : List (List Int32 × List Int32) → Nat → List (Nat × Nat)
  | [], _ => []
  | (t, b) :: r, k => (k + t.length, k + t.length + b.length) :: lw_ends r (k + t.length + b.length)
def R_lw (a : Int32) (asked forb : Nat → Int64) (code : Nat → Int32) (len : Int32) (hasLaw : Bool) (act with_ lineMany testEnd lineEnd : Nat → Int32) : Prop :=
  ∃ lines : List (List Int32 × List Int32), (∀ q ∈ lines, lw_okL q) ∧ (hasLaw = false → lines = []) ∧ (lw_enc lines).length ≤ 256 ∧ (lw_ops lines).length ≤ 130 ∧ lines.length ≤ 61 ∧
    len = nI (lw_enc lines).length ∧ (∀ j o, (lw_enc lines)[j]? = some o → code j = o) ∧
    lineMany 0 = nI lines.length ∧ (∀ j o, (lw_ops lines)[j]? = some o → act j = (lw_alike o).1 ∧ with_ j = (lw_alike o).2) ∧ (∀ i q, (lw_ends lines 0)[i]? = some q → testEnd i = nI q.1 ∧ lineEnd i = nI q.2) ∧
    ∃ n : Nat, n ≤ 10 ∧ a = nI n ∧ ∀ q, q < 1024 → bitw asked q = true → bitw forb q = decide (lw_lines (lw_env n q) lines ≠ 0)
def R_tape (letters : Nat → Int32) (length : Int32) (tape : Nat → Int32) (taped : Int32) : Prop :=
  ∃ k : Nat, k ≤ 120 ∧ length = nI k ∧ taped = nI k ∧ ∀ j, j < k → ∃ c : Nat, c < 256 ∧ letters j = nI c ∧ tape j = (nI c).toInt8.toInt32
def R_costs (prices lamps before after : Nat → Int32) (done undone : Int32) (cost changeAt mbefore behind : Nat → Int32) (doneMany undoneMany : Int32) : Prop :=
  (∀ j, j < 10 → ∃ c : Nat, c ≤ 9 ∧ prices j = nI c ∧ cost j = nI c) ∧ ∃ d u : Nat, d + u ≤ 40 ∧ done = nI d ∧ doneMany = nI d ∧ undone = nI u ∧ undoneMany = nI u ∧
    ∀ j, j < d + u → ∃ l b a : Nat, l < 10 ∧ b ≤ 9 ∧ a ≤ 9 ∧ lamps j = nI l ∧ changeAt j = nI l ∧ before j = nI b ∧ mbefore j = nI b ∧ after j = nI a ∧ behind j = nI a
def R_acts (kinds : Nat → Int32) (bodies : Int32) (trace : Nat → Int32) (ran : Int32) (kind : Nat → Int32) (mbodies : Int32) (traced : Nat → Int32) (traces : Int32) : Prop :=
  ∃ k r : Nat, k ≤ 50 ∧ bodies = nI k ∧ mbodies = nI k ∧ (∀ j, j < k → ∃ c : Nat, c < 8 ∧ kinds j = nI c ∧ kind j = nI c) ∧ r < 100000 ∧ ran = nI r ∧ traces = nI r ∧ ∀ j, j < r → j < 24 → trace j = traced j
/-- shelf i: nothing, a body, or a row -/
def R_shelf (i : Nat) (bodies holds body sort length : Int32) (elements : Nat → Int64) (mholds msize : Nat → Int32) (mel : Nat → Int64) : Prop :=
  (holds = 0 ∧ mholds i = -1) ∨ (holds = 1 ∧ ∃ k b : Nat, k ≤ 50 ∧ b < k ∧ bodies = nI k ∧ body = nI b ∧ mholds i = nI b) ∨
  (holds = 2 ∧ ∃ so n : Nat, so ≤ 4 ∧ n ≤ 60 ∧ sort = nI so ∧ length = nI n ∧ mholds i = -2 - nI so ∧ msize i = nI n ∧ ∀ j, j < 60 → elements j = mel (60 * i + j))
