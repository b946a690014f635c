/-! THE LAYER: a judgement with heap and locals hidden, contracts with a told answer and a told world -/
def b2i : Bool → Int32
  | true => 1
  | false => 0
def g_TY (dA : Nat → ClassId) : List (ClassId × FieldType) := [(dA 0, .int), (dA 1, .long), (dA 2, .boolean), (dA 3, .byte), (dA 4, .short), (dA 5, .object "OneLamp$Shelf")]
def g_ABOVE : Nat → Int32 := fun j => ([-1, 0, 0, 2, 1, 4, 0, 6] : List Int32).getD j 0
def g_BODY : Nat → Int32 := fun j => ([1, 20, 0, 0, 0, 0, 70, 81, 10, 0, 30, 41, 0, 0, 0, 80, 11, 0, 0, 40, 0, 60, 0, 0, 2, 0, 0, 0, 50, 61, 0, 0] : List Int32).getD j 0
/-- the two static tables, at addresses outside A -/
def g_Z (A : Nat → Prop) (U : State) (H : Heap) : Prop :=
  va_AO "OneLamp$Shelf" U ∧ (∃ t : Nat, va_Z "OneLamp$Acts" "ABOVE" "[I" (.ref t) A U H ∧ va_T .int t 8 (fun j => .int (g_ABOVE j)) A U H) ∧ (∃ t : Nat, va_Z "OneLamp$Acts" "BODY_OF" "[I" (.ref t) A U H ∧ va_T .int t 32 (fun j => .int (g_BODY j)) A U H)
theorem g_Z.to {A B : Nat → Prop} {u U : State} {H H1 : Heap} (h : g_Z A u H) (hvm : u.vm.Alike U.vm) (hq : ∀ a : Nat, a < H.size → ¬ A a → H1[a]? = H[a]?) (hAB : ∀ q, B q → A q) : g_Z B U H1 := by
  obtain ⟨h0, ⟨t, h1, h2⟩, ⟨t', h3, h4⟩⟩ := h
  exact ⟨h0.moved hvm, ⟨t, ((h1.moved hvm).kept hq).narrow hAB, ((h2.moved hvm).kept hq).narrow hAB⟩, ⟨t', ((h3.moved hvm).kept hq).narrow hAB, ((h4.moved hvm).kept hq).narrow hAB⟩⟩
/-- the end of a method: a told answer, a told world (up to what a constructor made) -/
def cQ {S : Type} (D : va_G) (A : Nat → Prop) (rv : Option Value) (w' : S → va_W) : Array Value → State → Outcome → State → Prop := fun _ st oc t =>
  (∃ u : S, oc = .returned rv ∧ va_P D classes (w' u) t.heap ∧ va_D A (w' u)) ∧ va_F A st t
def cP (D : va_G) (dA : Nat → ClassId) (av : List Value) (w : va_W) (sz : Nat) : Array Value → State → Prop := va_Pc av (fun U => U.heap.size = sz ∧ va_P D classes w U.heap ∧ va_K D classes (g_TY dA) U ∧ va_D (fun _ => True) w ∧ g_Z (va_A w sz) U U.heap)
theorem cP_blind {D : va_G} {dA : Nat → ClassId} {av : List Value} {w : va_W} {sz : Nat} : FrameBlind (cP D dA av w sz) := by
  intro a U g mk h
  obtain ⟨h0, h1, h2, h3, h4, h5⟩ := h
  exact ⟨h0, h1, h2, va_K.moved (u := U) (U := U.calling g mk a) (Vm.Alike.refl U.vm) h3, h4, h5.to (u := U) (U := U.calling g mk a) (Vm.Alike.refl U.vm) (fun _ _ _ => rfl) (fun _ h => h)⟩
def CT {S : Type} (l : Launch) (y : MethodName) (bytes : ByteArray) (maxL : Nat) (ret : Option FieldType) (rm : Room) (D : va_G) (dA : Nat → ClassId) (av : List Value) (w : va_W) (rv : Option Value) (w' : S → va_W) : Prop :=
  ∀ sz : Nat, Met l y (.code y bytes maxL ret :: g_tbl) rm (cP D dA av w sz) (cQ D (va_A w sz) rv w') rm.cells rm.slots (va_A w sz)
/-- what stands while a method runs -/
def GC (p : Program) (s : State) (m : MethodId) (args : Array Value) (meth : Method) (c : Code) (cc : ByteArray) (nL : Nat) (own : String) (ret : Option FieldType) (D : va_G) (dA : Nat → ClassId) (A : Nat → Prop) : Prop :=
  p.tables.exec = Jvm.exec ∧ c.code = cc ∧ c.maxLocals = nL ∧ s.vm.findClass own = some m.cls ∧ (∀ w ∈ g_tbl, w.before args s = true) ∧ va_K D classes (g_TY dA) s ∧ (∀ q, s.heap.size ≤ q → A q) ∧ g_Z A s s.heap ∧ meth.sig.returnType = ret ∧ meth.locks = false
def GG (p : Program) (l : Launch) (e : Env) (R : Room) (s : State) (m : MethodId) (args : Array Value) (below : List Frame) (meth : Method) (c : Code) (nL : Nat) (D : va_G) (A : Nat → Prop) (cells slots : Nat) (Q : State → Prop) (pc : Nat) (lv : List (Nat × Value)) (st : List Value) (ws : va_W) : Prop :=
  ∀ (H : Heap) (locs : List Loc) (ls : Array Slot), va_P D classes ws H → va_D A ws → va_S A s.heap H locs → lv_has ls nL lv → W p l e R s m args below meth c H locs cells slots Q (F0 m pc ls st)
theorem ct_intro {S : Type} {l : Launch} {y : MethodName} {bytes : ByteArray} {maxL : Nat} {ret : Option FieldType} {rm : Room} {D : va_G} {dA : Nat → ClassId} {av : List Value} {w : va_W} {rv : Option Value} {w' : S → va_W} (own : String) (ho : y.cls = own) (hp : plainName y.cls = true) (hn : (lg_sl av).length ≤ maxL) (lv : List (Nat × Value)) (hlv : lv_args 0 av = lv)
    (h : ∀ {p : Program} {e : Env} {s : State} {m : MethodId} {args : Array Value} {below : List Frame} {meth : Method} {c : Code}, (y.name = "<init>" → meth.name = "<init>") → GC p s m args meth c bytes maxL own ret D dA (va_A w s.heap.size) → GG p l e rm s m args below meth c maxL D (va_A w s.heap.size) 0 0 (MQ below (cQ D (va_A w s.heap.size) rv w') args s rm.cells rm.slots (va_A w s.heap.size)) 0 lv [] w) : CT l y bytes maxL ret rm D dA av w rv w' := by
  intro sz
  refine Met.ofW (cc := bytes) (maxL := maxL) (ret := ret) hp rfl ?_
  intro p e s m args below meth c s₁ B hml hv
  obtain ⟨rfl, hsz, hP, hK, hD0, hZ⟩ := hv
  subst hsz
  have hts := atoms_spec (ws := .code y bytes maxL ret :: g_tbl) B.pre
  have hC : GC p s m av.toArray meth c bytes maxL own ret D dA (va_A w s.heap.size) := ⟨B.exec, B.bytes, hml, by rw [← ho]; exact findClass_of_methodNamed B.named, fun w hw => hts w (List.mem_cons_of_mem _ hw), hK, fun q h => Or.inr h, hZ, B.returns, B.notSynchronized⟩
  have hg := h (fun hi => by rw [(name_of_methodNamed B.named B.method).1]; exact hi) hC (e := e) (below := below)
  have hl := lv_entry av (n := maxL) hn
  rw [hlv] at hl
  rw [lg_entry_eq]
  exact hg _ _ _ hP hD0.self va_S.rf hl
