/-! THE LAYER's calls -/
/-- a world with its places 'is' laid anew -/
def g_lay : va_W → List Nat → va_W → va_W
  | ws, i :: is, x :: xs => g_lay (ws.set i x) is xs
  | ws, [], _ => ws
  | ws, _ :: _, [] => ws
theorem g_lay_len : ∀ (is : List Nat) (xs ws : va_W), (g_lay ws is xs).length = ws.length
  | [], _, _ => by simp [g_lay]
  | _ :: _, [], _ => by simp [g_lay]
  | i :: is, x :: xs, ws => by rw [g_lay, g_lay_len is xs, List.length_set]
theorem g_lay_out : ∀ (is : List Nat) (xs ws : va_W) (k : Nat), k ∉ is → (g_lay ws is xs)[k]? = ws[k]?
  | [], _, _, _, _ => by simp [g_lay]
  | _ :: _, [], _, _, _ => by simp [g_lay]
  | i :: is, x :: xs, ws, k, h => by
    rw [g_lay, g_lay_out is xs _ k (fun z => h (List.mem_cons_of_mem _ z)), List.getElem?_set_ne (fun z => h (by rw [z]; exact List.mem_cons_self))]
theorem g_lay_in : ∀ (is : List Nat) (xs ws : va_W) (j i : Nat) (x : Nat × va_E), va_nd is = true → is[j]? = some i → xs[j]? = some x → i < ws.length → (g_lay ws is xs)[i]? = some x
  | [], _, _, j, i, x, _, h, _, _ => by simp at h
  | _ :: _, [], _, j, i, x, _, _, h, _ => by simp at h
  | i0 :: is, x0 :: xs, ws, j, i, x, hn, h1, h2, hl => by
    simp only [va_nd, Bool.and_eq_true, decide_eq_true_eq] at hn
    cases j with
    | zero =>
      rw [List.getElem?_cons_zero] at h1 h2
      cases h1; cases h2
      rw [g_lay, g_lay_out is xs _ _ hn.1, List.getElem?_set_self hl]
    | succ j =>
      rw [List.getElem?_cons_succ] at h1 h2
      rw [g_lay]
      exact g_lay_in is xs _ j i x hn.2 h1 h2 (by rw [List.length_set]; exact hl)
theorem g_join {A0 : Nat → Prop} {D : va_G} {ws wc w1 wn : va_W} {H H1 : Heap} (hP : va_P D classes ws H) (hD : va_D A0 ws) (is : List Nat) (hC : is.map (fun i => ws[i]?) = wc.map some) (hn : va_nd is = true) (ha : w1.map (·.1) = wc.map (·.1))
    (hk : ∀ q : Nat, q < H.size → ¬ va_A wc H.size q → H1[q]? = H[q]?) (hF : ∀ q, va_A wc H.size q → A0 q) (hP1 : va_P D classes (w1 ++ wn) H1) (hD1 : va_D (va_A wc H.size) (w1 ++ wn)) : va_P D classes (g_lay ws is w1 ++ wn) H1 ∧ va_D A0 (g_lay ws is w1 ++ wn) := by
  have hlen : w1.length = wc.length := by simpa using congrArg List.length ha
  have hlen2 : is.length = wc.length := by simpa using congrArg List.length hC
  -- place j of the part: its place in the whole, its cell
  have at' : ∀ (j : Nat) (q : Nat × va_E), wc[j]? = some q → ∃ i, is[j]? = some i ∧ ws[i]? = some q := by
    intro k q hq
    have h1 : (is.map (fun i => ws[i]?))[k]? = some (some q) := by rw [hC, List.getElem?_map, hq]; rfl
    rw [List.getElem?_map] at h1
    cases hi : is[k]? with
    | none => rw [hi] at h1; cases h1
    | some i => rw [hi] at h1; exact ⟨i, rfl, Option.some.inj h1⟩
  have addr : ∀ (j : Nat) (q : Nat × va_E), w1[j]? = some q → ∃ q', wc[j]? = some q' ∧ q'.1 = q.1 := by
    intro j q hq
    have h1 : (w1.map (·.1))[j]? = some q.1 := by rw [List.getElem?_map, hq]; rfl
    rw [ha, List.getElem?_map] at h1
    cases hi : wc[j]? with
    | none => rw [hi] at h1; cases h1
    | some q' => rw [hi] at h1; exact ⟨q', rfl, Option.some.inj h1⟩
  -- what stands in the new whole
  have cases' : ∀ (k : Nat) (q : Nat × va_E), (g_lay ws is w1)[k]? = some q → (∃ q0 : Nat × va_E, ws[k]? = some q0 ∧ q0.1 = q.1) ∧ ((k ∉ is ∧ ws[k]? = some q) ∨ ∃ j : Nat, is[j]? = some k ∧ w1[j]? = some q) := by
    intro k q hq
    have hkl : k < ws.length := by rw [← g_lay_len is w1 ws]; exact (List.getElem?_eq_some_iff.mp hq).1
    by_cases hki : k ∈ is
    · obtain ⟨j, hj⟩ := List.getElem?_of_mem hki
      have hjl : j < w1.length := by rw [hlen, ← hlen2]; exact (List.getElem?_eq_some_iff.mp hj).1
      have hx : w1[j]? = some w1[j] := List.getElem?_eq_getElem hjl
      have h2 := g_lay_in is w1 ws j k _ hn hj hx hkl
      rw [h2] at hq
      cases hq
      obtain ⟨q', h3, h4⟩ := addr j _ hx
      obtain ⟨i, h5, h6⟩ := at' j q' h3
      rw [hj] at h5
      cases h5
      exact ⟨⟨q', h6, h4⟩, Or.inr ⟨j, hj, hx⟩⟩
    · rw [g_lay_out is w1 ws k hki] at hq
      exact ⟨⟨q, hq, rfl⟩, Or.inl ⟨hki, hq⟩⟩
  have apart : ∀ (k : Nat) (q : Nat × va_E), k ∉ is → ws[k]? = some q → q.1 < H.size ∧ ¬ va_A wc H.size q.1 := by
    intro k q hki hq
    have hl := (hP k q hq).lt
    refine ⟨hl, fun h => ?_⟩
    rcases h with ⟨k2, e, h⟩ | h
    · obtain ⟨j, h3, h4⟩ := at' k2 (q.1, e) h
      have hij := hD.1 k j q (q.1, e) hq h4 rfl
      subst hij
      exact hki (List.mem_of_getElem? h3)
    · omega
  have fresh : ∀ (k : Nat) (q : Nat × va_E), wn[k]? = some q → H.size ≤ q.1 := by
    intro k q hq
    have h1 : (w1 ++ wn)[w1.length + k]? = some q := by rw [List.getElem?_append_right (Nat.le_add_right _ _), Nat.add_sub_cancel_left]; exact hq
    rcases hD1.2 _ q h1 with ⟨k2, e, h⟩ | h
    · have hk2 : k2 < w1.length := by rw [hlen]; exact (List.getElem?_eq_some_iff.mp h).1
      obtain ⟨q', h3, h4⟩ := addr k2 _ (List.getElem?_eq_getElem hk2)
      rw [h] at h3
      cases h3
      have h5 : (w1 ++ wn)[k2]? = some w1[k2] := by rw [List.getElem?_append_left hk2]; exact List.getElem?_eq_getElem hk2
      have := hD1.1 _ _ _ _ h1 h5 h4
      omega
    · exact h
  refine ⟨fun k q hk1 => ?_, fun i j x y hx hy hxy => ?_, fun k q hk1 => ?_⟩
  · rcases List.mem_append.mp (List.mem_of_getElem? hk1) with h | h
    · obtain ⟨i, hi⟩ := List.getElem?_of_mem h
      rcases (cases' i q hi).2 with ⟨h1, h2⟩ | ⟨j, -, h2⟩
      · obtain ⟨g1, g2⟩ := apart i q h1 h2
        exact (hP i q h2).kept (hk q.1 g1 g2)
      · exact hP1 j q (by rw [List.getElem?_append_left (List.getElem?_eq_some_iff.mp h2).1]; exact h2)
    · obtain ⟨i, hi⟩ := List.getElem?_of_mem h
      exact hP1 (w1.length + i) q (by rw [List.getElem?_append_right (Nat.le_add_right _ _), Nat.add_sub_cancel_left]; exact hi)
  · have pos : ∀ (k : Nat) (q : Nat × va_E), (g_lay ws is w1 ++ wn)[k]? = some q → (k < ws.length ∧ ∃ q0, ws[k]? = some q0 ∧ q0.1 = q.1 ∧ q.1 < H.size) ∨ (ws.length ≤ k ∧ wn[k - ws.length]? = some q ∧ H.size ≤ q.1) := by
      intro k q hq
      by_cases hl : k < (g_lay ws is w1).length
      · rw [List.getElem?_append_left hl] at hq
        obtain ⟨⟨q0, h1, h2⟩, -⟩ := cases' k q hq
        exact Or.inl ⟨by rw [← g_lay_len is w1 ws]; exact hl, q0, h1, h2, by rw [← h2]; exact (hP k q0 h1).lt⟩
      · rw [List.getElem?_append_right (by omega), g_lay_len] at hq
        rw [g_lay_len] at hl
        exact Or.inr ⟨by omega, hq, fresh _ q hq⟩
    rcases pos i x hx with ⟨l1, x0, a1, a2, a3⟩ | ⟨l1, a1, a2⟩ <;> rcases pos j y hy with ⟨l2, y0, b1, b2, b3⟩ | ⟨l2, b1, b2⟩
    · exact hD.1 i j x0 y0 a1 b1 (a2.trans (hxy.trans b2.symm))
    · omega
    · omega
    · have h1 : (w1 ++ wn)[w1.length + (i - ws.length)]? = some x := by rw [List.getElem?_append_right (Nat.le_add_right _ _), Nat.add_sub_cancel_left]; exact a1
      have h2 : (w1 ++ wn)[w1.length + (j - ws.length)]? = some y := by rw [List.getElem?_append_right (Nat.le_add_right _ _), Nat.add_sub_cancel_left]; exact b1
      have := hD1.1 _ _ _ _ h1 h2 hxy
      omega
  · by_cases hl : k < (g_lay ws is w1).length
    · rw [List.getElem?_append_left hl] at hk1
      obtain ⟨⟨q0, h1, h2⟩, -⟩ := cases' k q hk1
      rw [← h2]
      exact hD.2 k q0 h1
    · rw [List.getElem?_append_right (by omega)] at hk1
      have h1 : (w1 ++ wn)[w1.length + (k - (g_lay ws is w1).length)]? = some q := by rw [List.getElem?_append_right (Nat.le_add_right _ _), Nat.add_sub_cancel_left]; exact hk1
      exact hF q.1 (hD1.2 _ q h1)
/-- what a static method's name has in the tables -/
def YS (y : MethodName) (bytes : ByteArray) (maxL : Nat) (ret : Option FieldType) (n : Nat) : Prop := Cond.code y bytes maxL ret ∈ g_tbl ∧ Cond.initialized y.cls ∈ g_tbl ∧ Cond.static y ∈ g_tbl ∧ y.cls ≠ "java/lang/invoke/MethodHandle" ∧ y.cls ≠ "java/lang/invoke/VarHandle" ∧ (parseMethodDescriptor y.desc).map (fun d => d.parameters.length) = some n
def YV (y : MethodName) (bytes : ByteArray) (maxL : Nat) (ret : Option FieldType) (n : Nat) : Prop := Cond.code y bytes maxL ret ∈ g_tbl ∧ Cond.initialized y.cls ∈ g_tbl ∧ Cond.instanceMethod y ∈ g_tbl ∧ Cond.selects y.cls y y ∈ g_tbl ∧ y.cls ≠ "java/lang/invoke/MethodHandle" ∧ y.cls ≠ "java/lang/invoke/VarHandle" ∧ (parseMethodDescriptor y.desc).map (fun d => d.parameters.length) = some n
def YI (y : MethodName) (bytes : ByteArray) (maxL : Nat) (n : Nat) : Prop := Cond.code y bytes maxL none ∈ g_tbl ∧ Cond.initialized y.cls ∈ g_tbl ∧ Cond.instanceMethod y ∈ g_tbl ∧ y.name = "<init>" ∧ y.cls ≠ "java/lang/invoke/MethodHandle" ∧ y.cls ≠ "java/lang/invoke/VarHandle" ∧ (parseMethodDescriptor y.desc).map (fun d => d.parameters.length) = some n
section GCALL
variable {p : Program} {l : Launch} {e : Env} {R : Room} {s : State} {m : MethodId} {args : Array Value} {below : List Frame} {meth : Method} {c : Code} {cells slots : Nat} {Q : State → Prop}
variable {cc : ByteArray} {nL : Nat} {own : String} {ret : Option FieldType} {D : va_G} {dA : Nat → ClassId} {A : Nat → Prop} {pc pc' : Nat} {lv : List (Nat × Value)} {rest st : List Value} {ws : va_W}
variable {S : Type} {y : MethodName} {bytes : ByteArray} {maxL index n : Nat} {ry : Option FieldType} {rm : Room} {av : List Value} {w : va_W} {rv : Option Value}
theorem g_cb (C : GC p s m args meth c cc nL own ret D dA A) (hcode : Cond.code y bytes maxL ry ∈ g_tbl) (hini : Cond.initialized y.cls ∈ g_tbl) (hlink : Cond.methodLink own index y ∈ g_tbl) (hd : y.cls ≠ "java/lang/invoke/MethodHandle" ∧ y.cls ≠ "java/lang/invoke/VarHandle" ∧ (parseMethodDescriptor y.desc).map (fun d => d.parameters.length) = some n) (hR : rm.frames + 1 ≤ R.frames ∧ 8 + (maxL + 11) + rm.locals ≤ R.locals) :
    CallB R s args own index y bytes maxL ry (.code y bytes maxL ry :: g_tbl) rm rm.cells rm.slots n := by
  refine callB_of (Ts := g_tbl) n C.ts ?_ rfl rfl rfl (C.w hini) (C.w hlink) hd hR
  intro w hw
  have hm : w ∈ g_tbl := by
    rcases List.mem_cons.mp hw with h | h
    · rw [h]; exact hcode
    · exact h
  exact ⟨hm, good_of_word (tg_all w hm).2⟩
theorem g_pre (C : GC p s m args meth c cc nL own ret D dA A) {H : Heap} {locs : List Loc} (hP : va_P D classes ws H) (hD : va_D A ws) (hS : va_S A s.heap H locs) (is : List Nat) (hC : is.map (fun i => ws[i]?) = w.map some) (hn : va_nd is = true) : ∀ U : State, U.heap = H → s.WarmedH U.vm → cP D dA av w H.size av.toArray U := by
  intro U hU hW
  subst hU
  have hF := va_free (wc := w) hD hS C.aa is hC
  refine ⟨rfl, rfl, ?_, va_K.moved hW.alike C.K, (hD.sub is hn hC).weaken (fun _ _ _ _ => trivial), C.Z.to hW.alike hS.2.1 hF⟩
  intro k q hk
  have h1 : (is.map (fun i => ws[i]?))[k]? = some (some q) := by rw [hC, List.getElem?_map, hk]; rfl
  rw [List.getElem?_map] at h1
  cases hi : is[k]? with
  | none => rw [hi] at h1; cases h1
  | some i => rw [hi] at h1; exact hP i q (Option.some.inj h1)
theorem g_back {w' : S → va_W} {w1 wn : S → va_W} {H : Heap} {locs : List Loc} {ls : Array Slot} {cells' slots' mc ms : Nat} (C : GC p s m args meth c cc nL own ret D dA A) (hP : va_P D classes ws H) (hD : va_D A ws) (hS : va_S A s.heap H locs) (hl : lv_has ls nL lv) (is : List Nat) (hC : is.map (fun i => ws[i]?) = w.map some) (hn : va_nd is = true)
    (hw : ∀ u, w' u = w1 u ++ wn u) (ha : ∀ u, (w1 u).map (·.1) = w.map (·.1)) (hc : cells + mc = cells') (hs : slots + ms = slots')
    (hr : va_Run p l e R s m args below meth c H locs cells slots mc ms (F0 m pc ls st) rest (cQ D (va_A w H.size) rv w' av.toArray) (va_A w H.size))
    (k : ∀ u, GG p l e R s m args below meth c nL D A cells' slots' Q (pc + 3) lv (rv.toList ++ rest) (g_lay ws is (w1 u) ++ wn u)) : W p l e R s m args below meth c H locs cells slots Q (F0 m pc ls st) := by
  subst hc; subst hs
  have hF := va_free (wc := w) hD hS C.aa is hC
  intro T hT X
  obtain ⟨v, st₀, t, T', L, h0, X', hL, e1, e2, ⟨⟨u, hv, hp, hd⟩, hz, hk⟩, sg⟩ := hr T hT X
  cases hv
  rw [h0] at hz hk
  rw [hw] at hp hd
  have hj := g_join (H1 := t.heap) hP hD is hC hn (ha u) hk hF hp hd
  rw [← e1] at hz hk hj
  obtain ⟨t2, a1, b1⟩ := k u T'.heap (locs ++ L) ls hj.1 hj.2
    ⟨Nat.le_trans hS.1 hz, fun q h1 h2 => by rw [hk q (Nat.lt_of_lt_of_le h1 hS.1) (fun z => h2 (hF q z))]; exact hS.2.1 q h1 h2, fun q hq => by
      rcases List.mem_append.mp hq with h | h
      · exact hS.2.2 q h
      · exact hF _ (hL q h)⟩ hl T' rfl X'
  exact ⟨t2, sg t2 a1, b1⟩
theorem g_callS' {w' : S → va_W} (C : GC p s m args meth c cc nL own ret D dA A) (hct : CT l y bytes maxL ry rm D dA av w rv w') (hy : YS y bytes maxL ry n) (hlink : Cond.methodLink own index y ∈ g_tbl) (hdg : decode cc pc = .ok (.invokestatic index, 3)) (hp : pc + 3 = pc') (hnn : av.length = n) (hst : st = av.reverse ++ rest) (hrest : (rest.map fun v => v.category).sum ≤ 8) (hR : rm.frames + 1 ≤ R.frames ∧ 8 + (maxL + 11) + rm.locals ≤ R.locals) {cells' slots' : Nat} (hc : cells + rm.cells = cells') (hs : slots + rm.slots = slots') (hc2 : cells' ≤ R.cells) (hs2 : slots' ≤ R.slots)
    (is : List Nat) (hC : is.map (fun i => ws[i]?) = w.map some) (hn : va_nd is = true) {w1 wn : S → va_W} (hw : ∀ u, w' u = w1 u ++ wn u) (ha : ∀ u, (w1 u).map (·.1) = w.map (·.1))
    (k : ∀ u, GG p l e R s m args below meth c nL D A cells' slots' Q pc' lv (rv.toList ++ rest) (g_lay ws is (w1 u) ++ wn u)) : GG p l e R s m args below meth c nL D A cells slots Q pc lv st ws := by
  subst hp; subst hst
  intro H locs ls hP hD hS hl
  obtain ⟨hcode, hini, hsta, hd⟩ := hy
  refine g_back (av := av) C hP hD hS hl is hC hn hw ha hc hs ?_ k
  exact va_runS (Ts := g_tbl) ⟨C.x, C.b, C.ml, C.ow, C.ts⟩ (hct H.size) ⟨g_cb C hcode hini hlink hd hR, C.w hsta⟩ ⟨cP_blind, g_pre (dA := dA) C hP hD hS is hC hn⟩ rfl hnn hl.1 rfl (lv_room hrest) hdg ⟨by rw [hc]; exact hc2, by rw [hs]; exact hs2⟩
theorem g_callV' {w' : S → va_W} {b : Nat} {As : List Value} {ci q0 N : Nat} {T : u_T} {fs : List Value} (C : GC p s m args meth c cc nL own ret D dA A) (hct : CT l y bytes maxL ry rm D dA (.ref b :: As) w rv w') (hy : YV y bytes maxL ry n) (hlink : Cond.methodLink own index y ∈ g_tbl) (hdg : decode cc pc = .ok (.invokevirtual index, 3)) (hp : pc + 3 = pc') (hnn : As.length = n) (hst : st = As.reverse ++ .ref b :: rest) (hrest : (rest.map fun v => v.category).sum ≤ 8) (hR : rm.frames + 1 ≤ R.frames ∧ 8 + (maxL + 11) + rm.locals ≤ R.locals) {cells' slots' : Nat} (hc : cells + rm.cells = cells') (hs : slots + rm.slots = slots') (hc2 : cells' ≤ R.cells) (hs2 : slots' ≤ R.slots)
    (hcl : classes[ci]? = some (y.cls, T, N)) (he : ws[q0]? = some (b, .inr (ci, fs)))
    (is : List Nat) (hC : is.map (fun i => ws[i]?) = w.map some) (hn : va_nd is = true) {w1 wn : S → va_W} (hw : ∀ u, w' u = w1 u ++ wn u) (ha : ∀ u, (w1 u).map (·.1) = w.map (·.1))
    (k : ∀ u, GG p l e R s m args below meth c nL D A cells' slots' Q pc' lv (rv.toList ++ rest) (g_lay ws is (w1 u) ++ wn u)) : GG p l e R s m args below meth c nL D A cells slots Q pc lv st ws := by
  subst hp; subst hst
  intro H locs ls hP hD hS hl
  obtain ⟨hcode, hini, hins, hsel, hd⟩ := hy
  refine g_back (av := .ref b :: As) C hP hD hS hl is hC hn hw ha hc hs ?_ k
  exact va_runV (C := y.cls) (Ts := g_tbl) ⟨C.x, C.b, C.ml, C.ow, C.ts⟩ (hct H.size) ⟨g_cb C hcode hini hlink hd hR, C.w hins, C.w hsel⟩ ⟨cP_blind, va_recv C.K hP hcl he, g_pre (dA := dA) C hP hD hS is hC hn⟩ rfl hnn hl.1 rfl (lv_room hrest) hdg ⟨by rw [hc]; exact hc2, by rw [hs]; exact hs2⟩
theorem g_callI' {w' : S → va_W} {b : Nat} {As : List Value} (C : GC p s m args meth c cc nL own ret D dA A) (hct : CT l y bytes maxL none rm D dA (.ref b :: As) w rv w') (hy : YI y bytes maxL n) (hlink : Cond.methodLink own index y ∈ g_tbl) (hdg : decode cc pc = .ok (.invokespecial index, 3)) (hp : pc + 3 = pc') (hnn : As.length = n) (hst : st = As.reverse ++ .ref b :: rest) (hrest : (rest.map fun v => v.category).sum ≤ 8) (hR : rm.frames + 1 ≤ R.frames ∧ 8 + (maxL + 11) + rm.locals ≤ R.locals) {cells' slots' : Nat} (hc : cells + rm.cells = cells') (hs : slots + rm.slots = slots') (hc2 : cells' ≤ R.cells) (hs2 : slots' ≤ R.slots)
    (is : List Nat) (hC : is.map (fun i => ws[i]?) = w.map some) (hn : va_nd is = true) {w1 wn : S → va_W} (hw : ∀ u, w' u = w1 u ++ wn u) (ha : ∀ u, (w1 u).map (·.1) = w.map (·.1))
    (k : ∀ u, GG p l e R s m args below meth c nL D A cells' slots' Q pc' lv (rv.toList ++ rest) (g_lay ws is (w1 u) ++ wn u)) : GG p l e R s m args below meth c nL D A cells slots Q pc lv st ws := by
  subst hp; subst hst
  intro H locs ls hP hD hS hl
  obtain ⟨hcode, hini, hins, hnm, hd⟩ := hy
  refine g_back (av := .ref b :: As) C hP hD hS hl is hC hn hw ha hc hs ?_ k
  exact va_runI (Ts := g_tbl) ⟨C.x, C.b, C.ml, C.ow, C.ts⟩ (hct H.size) ⟨g_cb C hcode hini hlink hd hR, hnm, C.w hins⟩ ⟨cP_blind, g_pre (dA := dA) C hP hD hS is hC hn⟩ rfl hnn hl.1 rfl (lv_room hrest) hdg ⟨by rw [hc]; exact hc2, by rw [hs]; exact hs2⟩
/-- the calls of what makes nothing: the world behind is told, place by place -/
theorem g_callS {w1 ws1 : va_W} {st1 : List Value} (C : GC p s m args meth c cc nL own ret D dA A) (hct : CT l y bytes maxL ry rm D dA av w rv (fun _ : Unit => w1)) (hy : YS y bytes maxL ry n) (hlink : Cond.methodLink own index y ∈ g_tbl) (hdg : decode cc pc = .ok (.invokestatic index, 3)) (hp : pc + 3 = pc') (rest : List Value) (hst : st = av.reverse ++ rest) (hnn : av.length = n) (hrest : (rest.map fun v => v.category).sum ≤ 8) (hR : rm.frames + 1 ≤ R.frames ∧ 8 + (maxL + 11) + rm.locals ≤ R.locals) (hc : rm.cells = 0) (hs : rm.slots = 0) (hc2 : cells ≤ R.cells) (hs2 : slots ≤ R.slots)
    (is : List Nat) (hC : is.map (fun i => ws[i]?) = w.map some) (hn : va_nd is = true) (ha : w1.map (·.1) = w.map (·.1)) (hws : g_lay ws is w1 = ws1) (hst1 : rv.toList ++ rest = st1)
    (k : GG p l e R s m args below meth c nL D A cells slots Q pc' lv st1 ws1) : GG p l e R s m args below meth c nL D A cells slots Q pc lv st ws := by
  subst hws; subst hst1
  exact g_callS' C hct hy hlink hdg hp hnn hst hrest hR (by rw [hc]; rfl) (by rw [hs]; rfl) hc2 hs2 is hC hn (w1 := fun _ => w1) (wn := fun _ => []) (fun _ => (List.append_nil _).symm) (fun _ => ha) (fun _ => by rw [List.append_nil]; exact k)
theorem g_callV {w1 ws1 : va_W} {st1 : List Value} {b : Nat} {As : List Value} {ci N : Nat} {T : u_T} {fs : List Value} {Cn : String} {ty : Nat → FieldType} (C : GC p s m args meth c cc nL own ret D dA A) (hct : CT l y bytes maxL ry rm D dA (.ref b :: As) w rv (fun _ : Unit => w1)) (hy : YV y bytes maxL ry n) (F : KF ci Cn T N ty) (hcn : y.cls = Cn) (hlink : Cond.methodLink own index y ∈ g_tbl) (hdg : decode cc pc = .ok (.invokevirtual index, 3)) (hp : pc + 3 = pc') (rest : List Value) (hst : st = As.reverse ++ .ref b :: rest) (hnn : As.length = n) (hrest : (rest.map fun v => v.category).sum ≤ 8) (hR : rm.frames + 1 ≤ R.frames ∧ 8 + (maxL + 11) + rm.locals ≤ R.locals) (hc : rm.cells = 0) (hs : rm.slots = 0) (hc2 : cells ≤ R.cells) (hs2 : slots ≤ R.slots)
    (q0 : Nat) (he : ws[q0]? = some (b, .inr (ci, fs))) (is : List Nat) (hC : is.map (fun i => ws[i]?) = w.map some) (hn : va_nd is = true) (ha : w1.map (·.1) = w.map (·.1)) (hws : g_lay ws is w1 = ws1) (hst1 : rv.toList ++ rest = st1)
    (k : GG p l e R s m args below meth c nL D A cells slots Q pc' lv st1 ws1) : GG p l e R s m args below meth c nL D A cells slots Q pc lv st ws := by
  subst hws; subst hst1
  exact g_callV' C hct hy hlink hdg hp hnn hst hrest hR (by rw [hc]; rfl) (by rw [hs]; rfl) hc2 hs2 (by rw [hcn]; exact F.1) he is hC hn (w1 := fun _ => w1) (wn := fun _ => []) (fun _ => (List.append_nil _).symm) (fun _ => ha) (fun _ => by rw [List.append_nil]; exact k)
/-- arrays copied; the two static tables -/
theorem g_copyi {ws' : va_W} {a0 a n0 n1 : Nat} {f g : Nat → Int32} {sp dp n : Int32} (C : GC p s m args meth c cc nL own ret D dA A) (hlink : Cond.methodLink own index arraycopyName ∈ g_tbl) (hnat : Cond.native arraycopyName ∈ g_tbl) (hsta : Cond.static arraycopyName ∈ g_tbl) (hini : Cond.initialized "java/lang/System" ∈ g_tbl) (hdg : decode cc pc = .ok (.invokestatic index, 3)) (hp : pc + 3 = pc') (q0 q1 : Nat) (ha0 : ws[q0]? = some (a0, .inl (dA 0, n0, .inl f))) (ha1 : ws[q1]? = some (a, .inl (dA 0, n1, .inl g)))
    (h1 : ¬ sp < 0) (h2 : ¬ dp < 0) (h3 : ¬ n < 0) (h4 : sp.toNatClampNeg + n.toNatClampNeg ≤ n0) (h5 : dp.toNatClampNeg + n.toNatClampNeg ≤ n1) (hframes : 1 ≤ R.frames) (hlocals : (rest.map fun v => v.category).sum + (nativeFrameWords "java/lang/System" "arraycopy" 5 + 11) ≤ R.locals) (hws : ws.set q1 (a, .inl (dA 0, n1, .inl (va_cpy f g sp.toNatClampNeg dp.toNatClampNeg n.toNatClampNeg))) = ws')
    (k : GG p l e R s m args below meth c nL D A cells slots Q pc' lv rest ws') : GG p l e R s m args below meth c nL D A cells slots Q pc lv (.int n :: .int dp :: .ref a :: .int sp :: .ref a0 :: rest) ws := by
  subst hp; subst hws
  intro H locs ls hP hD hS hl
  exact va_copyi C.x C.b (C.ml.trans hl.1.symm) C.ow (C.w hlink) (C.w hnat) (C.w hsta) (C.w hini) C.K hP hD hS q0 q1 0 0 (ty := .int) ha0 ha1 rfl rfl rfl h1 h2 h3 h4 h5 (fun _ _ => rfl) hframes hlocals hdg (fun H1 locs1 hP1 hD1 hS1 => k H1 locs1 ls hP1 hD1 hS1 hl)
end GCALL
