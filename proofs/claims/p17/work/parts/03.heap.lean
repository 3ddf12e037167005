/-! THE MODEL HEAP: how many cells the machine's heap has, how many slots were made so far (a ghost), and what the cells hold that are ours. -/
abbrev hp_T : Type := Nat × Nat × (Nat → Option va_E)
def hp_up (h : hp_T) (a : Nat) (e : va_E) : hp_T := (h.1, h.2.1, fun q => if q = a then some e else h.2.2 q)
def hp_add (h : hp_T) (n : Nat) (e : va_E) : hp_T := (h.1 + 1, h.2.1 + n, fun q => if q = h.1 then some e else h.2.2 q)
theorem hp_up_self (h : hp_T) (a : Nat) (e : va_E) : (hp_up h a e).2.2 a = some e := if_pos rfl
theorem hp_up_ne {h : hp_T} {a q : Nat} {e : va_E} (n : q ≠ a) : (hp_up h a e).2.2 q = h.2.2 q := if_neg n
theorem hp_add_self (h : hp_T) (n : Nat) (e : va_E) : (hp_add h n e).2.2 h.1 = some e := if_pos rfl
theorem hp_add_ne {h : hp_T} {n q : Nat} {e : va_E} (z : q ≠ h.1) : (hp_add h n e).2.2 q = h.2.2 q := if_neg z
/-- the globals: the launch, where our cells begin, classes and slots by number, array classes, what is below -/
abbrev gl_G : Type := Launch × Nat × va_G × List (ClassId × FieldType) × (State → Prop)
abbrev gl_l (G : gl_G) : Launch := G.1
abbrev gl_b (G : gl_G) : Nat := G.2.1
abbrev gl_D (G : gl_G) : va_G := G.2.2.1
abbrev gl_t (G : gl_G) : List (ClassId × FieldType) := G.2.2.2.1
abbrev gl_L (G : gl_G) : State → Prop := G.2.2.2.2
abbrev gl_A (G : gl_G) : Nat → Prop := fun q => gl_b G ≤ q
def gl_ok (G : gl_G) : Prop := ∀ U V : State, U.WarmedH V.vm → (∀ q : Nat, q < U.heap.size → ¬ gl_b G ≤ q → V.heap[q]? = U.heap[q]?) → gl_L G U → gl_L G V
/-- a method: its name, bytes, locals, answer, words; frames and words of the stack that it nests -/
abbrev mt_M : Type := MethodName × ByteArray × Nat × Option FieldType × List Cond × Nat × Nat
abbrev mt_y (μ : mt_M) : MethodName := μ.1
abbrev mt_b (μ : mt_M) : ByteArray := μ.2.1
abbrev mt_n (μ : mt_M) : Nat := μ.2.2.1
abbrev mt_r (μ : mt_M) : Option FieldType := μ.2.2.2.1
abbrev mt_w (μ : mt_M) : List Cond := μ.2.2.2.2.1
abbrev mt_f (μ : mt_M) : Nat := μ.2.2.2.2.2.1
abbrev mt_l (μ : mt_M) : Nat := μ.2.2.2.2.2.2
theorem va_at_vm {D : va_G} {cl : List vw_C} {a : Nat} {e : va_E} {H : Heap} (h : va_at D cl (a, e) H) : ∃ ce : Cell, H[a]? = some ce ∧ ce.vm = .none := by
  cases e with
  | inl x =>
    refine ⟨_, h, ?_⟩
    obtain ⟨c, n, f⟩ := x
    rcases f with f | f | f | f | f <;> rfl
  | inr o =>
    obtain ⟨r, -, cell, q1, -, q3, -⟩ := h
    exact ⟨cell, q1, q3⟩
/-- the machine's heap holds the model's cells; what lies from our begin on is plain -/
def hp_ok (G : gl_G) (h : hp_T) (H : Heap) : Prop := (H.size = h.1 ∧ ∀ (q : Nat) (ce : Cell), gl_b G ≤ q → H[q]? = some ce → ce.vm = .none) ∧ ∀ (a : Nat) (e : va_E), h.2.2 a = some e → va_at (gl_D G) vwCl (a, e) H ∧ gl_b G ≤ a
theorem hp_ok.one {G : gl_G} {h : hp_T} {H : Heap} (k : hp_ok G h H) {a : Nat} {e : va_E} (he : h.2.2 a = some e) : va_P (gl_D G) vwCl [(a, e)] H := by
  intro i q hq
  cases i with
  | zero => cases hq; exact (k.2 a e he).1
  | succ i => simp at hq
theorem hp_ok.lt {G : gl_G} {h : hp_T} {H : Heap} (k : hp_ok G h H) {a : Nat} {e : va_E} (he : h.2.2 a = some e) : a < h.1 := by
  rw [← k.1.1]; exact (k.2 a e he).1.lt
theorem hp_ok.set {G : gl_G} {h : hp_T} {H H1 : Heap} (k : hp_ok G h H) {a : Nat} {e : va_E} (ha : gl_b G ≤ a) (h1 : va_at (gl_D G) vwCl (a, e) H1) (z : H1.size = H.size) (o : ∀ q : Nat, q ≠ a → H1[q]? = H[q]?) : hp_ok G (hp_up h a e) H1 := by
  refine ⟨⟨z.trans k.1.1, fun q ce hb hq => ?_⟩, fun q x hx => ?_⟩
  · by_cases hqa : q = a
    · subst hqa
      obtain ⟨ce', e1, e2⟩ := va_at_vm h1
      cases e1.symm.trans hq
      exact e2
    · exact k.1.2 q ce hb (by rw [← o q hqa]; exact hq)
  by_cases hq : q = a
  · subst hq
    rw [hp_up_self] at hx
    cases hx
    exact ⟨h1, ha⟩
  · rw [hp_up_ne hq] at hx
    exact ⟨(k.2 q x hx).1.kept (o q hq), (k.2 q x hx).2⟩
theorem hp_ok.push {G : gl_G} {h : hp_T} {H H1 : Heap} (k : hp_ok G h H) {n : Nat} {e : va_E} (hb : gl_b G ≤ h.1) (h1 : va_at (gl_D G) vwCl (h.1, e) H1) (z : H1.size = H.size + 1) (o : ∀ q : Nat, q < H.size → H1[q]? = H[q]?) : hp_ok G (hp_add h n e) H1 := by
  refine ⟨⟨by rw [z, k.1.1]; rfl, fun q ce hb hq => ?_⟩, fun q x hx => ?_⟩
  · have hlt := (Array.getElem?_eq_some_iff.mp hq).1
    have hsz := k.1.1
    by_cases hqa : q = h.1
    · subst hqa
      obtain ⟨ce', e1, e2⟩ := va_at_vm h1
      cases e1.symm.trans hq
      exact e2
    · exact k.1.2 q ce hb (by rw [← o q (by omega)]; exact hq)
  by_cases hq : q = h.1
  · subst hq
    rw [hp_add_self] at hx
    cases hx
    exact ⟨h1, hb⟩
  · rw [hp_add_ne hq] at hx
    exact ⟨(k.2 q x hx).1.kept (o q (k.2 q x hx).1.lt), (k.2 q x hx).2⟩
/-- what a walk of the method μ has at hand -/
def cx_ok (G : gl_G) (μ : mt_M) (p : Program) (R : Room) (s : State) (m : MethodId) (args : Array Value) (meth : Method) (c : Code) : Prop :=
  p.tables.exec = Jvm.exec ∧ c.code = mt_b μ ∧ c.maxLocals = mt_n μ ∧ meth.sig.returnType = mt_r μ ∧ s.vm.findClass (mt_y μ).cls = some m.cls ∧ (∀ w ∈ mt_w μ, w.before args s = true) ∧ meth.locks = false ∧ meth.name = (mt_y μ).name ∧
  va_K (gl_D G) vwCl (gl_t G) s ∧ gl_L G s ∧ gl_b G ≤ s.heap.size ∧ R.frames = mt_f μ ∧ R.locals = mt_l μ ∧ gl_ok G ∧ s.methodNamed? (mt_y μ) = some m ∧ ∀ (q : Nat) (ce : Cell), gl_b G ≤ q → s.heap[q]? = some ce → ce.vm = .none
/-- the end of a method: the answer o, the cells h' -/
def ct_Q (G : gl_G) (o : Option Value) (h' : hp_T) : Array Value → State → Outcome → State → Prop := fun _ st oc t => oc = .returned o ∧ hp_ok G h' t.heap ∧ va_F (gl_A G) st t
def ct_P (G : gl_G) (av : List Value) (h : hp_T) : Array Value → State → Prop := va_Pc av (fun U => hp_ok G h U.heap ∧ gl_b G ≤ U.heap.size ∧ va_K (gl_D G) vwCl (gl_t G) U ∧ gl_L G U)
def ct_R (μ : mt_M) (mc ms : Nat) : Room := { frames := mt_f μ, cells := mc, slots := ms, locals := mt_l μ }
/-- THE CONTRACT: called with av over the cells h, the method answers o and leaves h' -/
def ct_D (G : gl_G) (μ : mt_M) (av : List Value) (h : hp_T) (o : Option Value) (h' : hp_T) : Prop :=
  h.1 ≤ h'.1 ∧ h.2.1 ≤ h'.2.1 ∧ (gl_ok G → Met (gl_l G) (mt_y μ) (mt_w μ) (ct_R μ (h'.1 - h.1) (h'.2.1 - h.2.1)) (ct_P G av h) (ct_Q G o h') (h'.1 - h.1) (h'.2.1 - h.2.1) (gl_A G))
def ct_E (G : gl_G) (μ : mt_M) (av : List Value) (h : hp_T) (Z : Option Value → hp_T → Prop) : Prop := ∃ o h', Z o h' ∧ ct_D G μ av h o h'
/-- FROM HERE: at pc with the locals lv, the operands st, the cells h: the method answers o and leaves h' -/
def ev_D (G : gl_G) (μ : mt_M) (pc : Nat) (lv : List (Nat × Value)) (st : List Value) (h : hp_T) (o : Option Value) (h' : hp_T) : Prop :=
  h.1 ≤ h'.1 ∧ h.2.1 ≤ h'.2.1 ∧ ∀ (p : Program) (e : Env) (R : Room) (s : State) (m : MethodId) (args : Array Value) (below : List Frame) (meth : Method) (c : Code), cx_ok G μ p R s m args meth c →
    ∀ (H : Heap) (locs : List Loc) (cells slots : Nat) (ls : Array Slot), hp_ok G h H → va_S (gl_A G) s.heap H locs → lv_has ls (mt_n μ) lv → cells + (h'.1 - h.1) ≤ R.cells → slots + (h'.2.1 - h.2.1) ≤ R.slots →
      W p (gl_l G) e R s m args below meth c H locs cells slots (MQ below (ct_Q G o h') args s R.cells R.slots (gl_A G)) (F0 m pc ls st)
def ev_E (G : gl_G) (μ : mt_M) (pc : Nat) (lv : List (Nat × Value)) (st : List Value) (h : hp_T) (Z : Option Value → hp_T → Prop) : Prop := ∃ o h', Z o h' ∧ ev_D G μ pc lv st h o h'
theorem ev_to {G : gl_G} {μ : mt_M} {pc : Nat} {lv : List (Nat × Value)} {st : List Value} {h : hp_T} {Z Z' : Option Value → hp_T → Prop} (k : ev_E G μ pc lv st h Z) (hz : ∀ o h', Z o h' → Z' o h') : ev_E G μ pc lv st h Z' := by
  obtain ⟨o, h', a, b⟩ := k
  exact ⟨o, h', hz o h' a, b⟩
theorem ct_to {G : gl_G} {μ : mt_M} {av : List Value} {h : hp_T} {Z Z' : Option Value → hp_T → Prop} (k : ct_E G μ av h Z) (hz : ∀ o h', Z o h' → Z' o h') : ct_E G μ av h Z' := by
  obtain ⟨o, h', a, b⟩ := k
  exact ⟨o, h', hz o h' a, b⟩
/-- a method's contract out of its walk -/
theorem ct_of {G : gl_G} {μ : mt_M} {av : List Value} {h : hp_T} {Z : Option Value → hp_T → Prop} {ws' : List Cond} (hy : plainName (mt_y μ).cls = true) (hw : mt_w μ = Cond.code (mt_y μ) (mt_b μ) (mt_n μ) (mt_r μ) :: ws') (hn : (lg_sl av).length ≤ mt_n μ) (k : ev_E G μ 0 (lv_args 0 av) [] h Z) : ct_E G μ av h Z := by
  obtain ⟨o, h', hz, h1, h2, k⟩ := k
  refine ⟨o, h', hz, h1, h2, fun hG => ?_⟩
  refine Met.ofW (cc := mt_b μ) (maxL := mt_n μ) (ret := mt_r μ) hy hw ?_
  intro p e s m args below meth c s₁ B hml hv
  obtain ⟨rfl, hO, hbs, hK, hL⟩ := hv
  have hts := atoms_spec (ws := mt_w μ) B.pre
  have hown : s.vm.findClass (mt_y μ).cls = some m.cls := findClass_of_methodNamed B.named
  have hl := lv_entry av (n := mt_n μ) hn
  rw [lg_entry_eq]
  refine k p e (ct_R μ (h'.1 - h.1) (h'.2.1 - h.2.1)) s m _ below meth c ⟨B.exec, B.bytes, hml, B.returns, hown, hts, B.notSynchronized, (name_of_methodNamed B.named B.method).1, hK, hL, hbs, rfl, rfl, hG, B.named, hO.1.2⟩ s.heap [] 0 0 _ hO va_S.rf hl ?_ ?_
  · exact Nat.le_of_eq (Nat.zero_add _)
  · exact Nat.le_of_eq (Nat.zero_add _)
/-- a step that leaves the cells -/
theorem ev_pure {G : gl_G} {μ : mt_M} {pc pc2 : Nat} {lv lv2 : List (Nat × Value)} {st st2 : List Value} {h : hp_T} {Z : Option Value → hp_T → Prop}
    (hs : ∀ (p : Program) (e : Env) (R : Room) (s : State) (m : MethodId) (args : Array Value) (below : List Frame) (meth : Method) (c : Code), cx_ok G μ p R s m args meth c → ∀ (H : Heap) (locs : List Loc) (cells slots : Nat) (Q : State → Prop) (ls : Array Slot), hp_ok G h H → va_S (gl_A G) s.heap H locs → lv_has ls (mt_n μ) lv →
      (∀ ls2 : Array Slot, lv_has ls2 (mt_n μ) lv2 → W p (gl_l G) e R s m args below meth c H locs cells slots Q (F0 m pc2 ls2 st2)) → W p (gl_l G) e R s m args below meth c H locs cells slots Q (F0 m pc ls st))
    (k : ev_E G μ pc2 lv2 st2 h Z) : ev_E G μ pc lv st h Z := by
  obtain ⟨o, h', hZ, h1, h2, k⟩ := k
  exact ⟨o, h', hZ, h1, h2, fun p e R s m args below meth c C H locs cells slots ls hO hS hl hc hq => hs p e R s m args below meth c C H locs cells slots _ ls hO hS hl (fun ls2 hl2 => k p e R s m args below meth c C H locs cells slots ls2 hO hS hl2 hc hq)⟩
