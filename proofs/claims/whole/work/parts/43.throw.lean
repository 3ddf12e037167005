/-! Throws: a method that throws a new IndexOutOfBoundsException, and the law's helpers, which catch it. -/
section CATCH
/-- the search through a table of one row that covers the place, its class linked, cold or warm -/
theorem tc_find {e : Env} {s : State} {f : JFrame} {a : Addr} {meth : Method} {code : Code} {x : ExceptionTableEntry} {c : ClassId} {vm' : Vm} {cell : Cell} (hm : s.vm.method? f.method = some meth) (hc : meth.code = some code) (hx1 : code.exceptionTable.toList = [x]) (hx : covers x f.pc = true) (h0 : x.catchType ≠ 0)
    (hg : (Jvm.resolveClass f.method.cls x.catchType).Gives e.toSetting s.vm (.ok c) vm') (hsz : vm'.classes.size ≤ s.vm.classes.size) (hcell : s.heap[a]? = some cell) (hobj : ∀ k, cell.vm ≠ .statics k) (hk : ∃ k, vm'.classes[cell.cls]? = some k) (hcl : ∃ k, vm'.classes[c]? = some k) (hfit : vm'.assignable cell.cls c = true)
    (Q : Handler → Pre) (E : CtlPost) (d : Bool) (acts : List Action) : wp (findHandler f a) Q E e d acts s ↔ Q (.found x.handlerPc) d acts (s.setVm vm') := by
  rw [W.findHandler_eq hm hc, hx1]
  obtain ⟨ha, ht⟩ := hg.op (op := VmOp.resolveClass f.method.cls x.catchType) rfl
  simp only [covers] at hx
  simp [findHandler.go, hx, h0, ha, ht, hsz, hcell, hobj, hk, hcl, hfit, VmOp.dirties, VmOp.acts]
theorem tc_step {e : Env} {s : State} {a : Addr} {f : JFrame} {r : List Frame} {pc : Nat} {vm' : Vm} (hfind : ∀ (Q : Handler → Pre) (E : CtlPost) (d : Bool) (acts : List Action), wp (findHandler f a) Q E e d acts s ↔ Q (.found pc) d acts (s.setVm vm')) :
    (stepThrowing e s a (.java f :: r)).Is ((s.setVm vm').setFrames (.java { f with pc := pc, stack := [.ref a] } :: r)) [] := by
  simp only [stepThrowing, searchFrame, vmDo]
  generalize hr : Sem.go _ e false [] s = res
  obtain ⟨as, rfl, ha⟩ := Sem.eq_ok_of hr (a := Handler.found pc) (s' := s.setVm vm') (acts' := []) (by simp [hfind _ _ _ _])
  exact ⟨rfl, ha⟩
variable {p : Program} {l : Launch} {e : Env} {R : Room} {s : State} {m : MethodId} {args : Array Value} {below : List Frame} {meth : Method} {c : Code} {T : State} {locs : List Loc} {cells slots : Nat}
/-- caught in the walked method -/
theorem tc_caught (X : Stand p l e R s m args below meth c T locs cells slots) {own name : String} {index : Nat} (hown : s.vm.findClass own = some m.cls) (hlink : (Cond.classLink own index name).before args s = true) {a : Addr} {x : ExceptionTableEntry} (hx1 : c.exceptionTable.toList = [x]) (hix : x.catchType = index) (h0 : index ≠ 0)
    {g : JFrame} (hg : g.method = m) (hx : covers x g.pc = true) {cell : Cell} (hcell : T.heap[a]? = some cell) (hvm : cell.vm = .none) (hcls : s.vm.findClass name = some cell.cls) (hself : s.vm.assignable cell.cls cell.cls = true) :
    ∃ vm', Stand p l e R s m args below meth c (T.setVm vm') locs cells slots ∧ ∀ target, Steps p.tables e below ((T.setVm vm').setTop { g with pc := x.handlerPc, stack := [.ref a] }) target → Steps p.tables e below ((T.setTop g).pushFrame (.throwing a)) target := by
  have hpl : e.platform.magicAccessors = ({} : Platform).magicAccessors := by rw [X.admits.platform]
  obtain ⟨c', hc', hcl⟩ := Cond.classLink_spec hown hlink e.platform hpl
  cases hcls.symm.trans hc'
  obtain ⟨dk, _, _, kt, hd, _, _, _, _, hkt, _, hopen⟩ := hcl.here
  have hcl₀ := X.warmed.classLinks hcl
  have hW' : s.WarmedH (T.vm.noted m.cls index (.cls cell.cls)) := X.warmed.noted hd hopen (State.rightAt_cls hcl)
  obtain ⟨kt', hkt', -⟩ := hW'.alike.2.2 _ _ hkt
  refine ⟨_, X.noted hW', fun target hrest => ?_⟩
  subst hg
  subst hix
  have h : At T g.method c below := X.here
  have hal : ((T.setTop g).pushFrame (.throwing a)).vm.Alike (T.vm.noted g.method.cls x.catchType (.cls cell.cls)) := X.warmed.alike.symm.trans hW'.alike
  have hfind := tc_find (e := e) (s := (T.setTop g).pushFrame (.throwing a)) (f := g) (a := a) (meth := meth) (code := c) (x := x) (c := cell.cls) (vm' := T.vm.noted g.method.cls x.catchType (.cls cell.cls)) (cell := cell) X.method' X.code hx1 hx h0 (resolveClass_links e.toSetting hcl₀) (by no_record) hcell (fun k hk => by rw [hvm] at hk; cases hk) ⟨_, hkt'⟩ ⟨_, hkt'⟩ (by rw [hW'.alike.assignable]; exact hself)
  obtain ⟨hgo, hw⟩ := h.throwing a
  refine Steps.head hgo hw ?_
  rw [stepThread_throwing (frames_entered h.top _), (tc_step (s := (T.setTop g).pushFrame (.throwing a)) hfind).1]
  obtain ⟨g₀, hg0⟩ := Option.isSome_iff_exists.mp h.top
  obtain ⟨r, hr⟩ := State.topJava?_eq_some.mp hg0
  rw [hr, List.tail_cons]
  have hr' : (T.setVm (T.vm.noted g.method.cls x.catchType (.cls cell.cls))).frames = .java g₀ :: r := hr
  rw [State.setTop_of_frames _ hr'] at hrest
  have e1 : ((((T.setTop g).pushFrame (.throwing a)).setVm (T.vm.noted g.method.cls x.catchType (.cls cell.cls))).setFrames (.java { g with pc := x.handlerPc, stack := [.ref a] } :: r)) = (((T.setTop g).pushFrame (.throwing a)).setFrames (.java { g with pc := x.handlerPc, stack := [.ref a] } :: r)).setVm (T.vm.noted g.method.cls x.catchType (.cls cell.cls)) := rfl
  rw [e1, State.pushFrame, State.setFrames_setFrames, State.setTop_of_frames _ hr, State.setFrames_setFrames]
  exact hrest
/-- into a method by its free contract: how it ends -/
theorem tc_into (X : Stand p l e R s m args below meth c T locs cells slots) {y : MethodName} {S : Spec} {P : Array Value → State → Prop} {Q : Array Value → State → Outcome → State → Prop} (hM : MetFree l y S P (fun _ _ _ _ _ => True) Q) {g : JFrame} (hg : g.method = m) (hsize : g.locals.size = c.maxLocals) {ig : Instr} {len : Nat} (hdg : decode c.code g.pc = .ok (ig, len))
    {mk : MethodId} {a : Array Value} (hn : T.methodNamed? y = some mk) {methY : Method} {cY : Code} (hmY : T.vm.method? mk = some methY) (hcY : methY.code = some cY) (hini : (Cond.initialized y.cls).before a T = true) (hframes : S.room.frames + 1 ≤ R.frames) (hlocals : 2 * g.monitorRoom + (g.stack.map fun v => v.category).sum + (cY.maxLocals + 11) + S.room.locals ≤ R.locals) (hc : cells + S.room.cells ≤ R.cells) (hs : slots + S.room.slots ≤ R.slots) (hpre : S.pre.before a T = true) (hP : P a (T.calling g mk a)) :
    ∃ o t, Steps p.tables e below (doInvoke e (T.setTop g) [] mk a).1 t ∧ Ended t (.java g :: below) o ∧ Q a (T.calling g mk a) o t := by
  obtain ⟨kY, hkY, -⟩ := className_of_methodNamed hn
  have hinitY : kY.init = .initialized := Cond.initialized_spec (findClass_of_methodNamed hn) hkY hini
  have h : At T g.method c below := by rw [hg]; exact X.here
  have happ : S.appliesLoose y e.platform (T.calling g mk a) = true :=
    Spec.appliesLoose_calling (g := g) h hdg hn hkY hinitY (X.room_calling (g := g) (R' := S.room) hsize hmY hcY hframes hlocals hc hs) hpre
  obtain ⟨mid, hmid⟩ := h.above
  have hfr : (T.setTop g).frames = (.java g :: mid) ++ below := by rw [State.frames_setTop' g h.top, hmid]; rfl
  obtain ⟨o, s₂, hsteps, -, hend, hq⟩ := Steps.callFree hM p X.admits X.cas X.clock (acts := []) hfr happ hP trivial
  rw [State.frames_setTop' g h.top] at hend
  rw [X.tail] at hend
  exact ⟨o, s₂, hsteps, hend, hq⟩
end CATCH
section THROWS
def tx_X : String := "java/lang/IndexOutOfBoundsException"
def hp_more (h : hp_T) (a n : Nat) : hp_T := (h.1 + a, h.2.1 + n, h.2.2)
/-- it threw the new cell at the heap's end -/
def tx_Q (G : gl_G) (h : hp_T) (st : State) (oc : Outcome) (t : State) : Prop := ∃ ce : Cell, oc = .threw h.1 ∧ t.heap[h.1]? = some ce ∧ ce.vm = .none ∧ st.vm.findClass tx_X = some ce.cls ∧ hp_ok G (hp_more h 1 6) t.heap ∧ va_F (gl_A G) st t
def tx_F (G : gl_G) (st t : State) (mc ms : Nat) : Prop := ∃ L : List Loc, (st.WarmedH t.vm ∧ st.sameButNew ({ t with vm := st.vm } : State) L mc ms) ∧ ∀ q ∈ L, gl_A G q.base
/-- THE CONTRACT of a method that throws -/
def tx_D (G : gl_G) (μ : mt_M) (av : List Value) (h : hp_T) : Prop := gl_ok G → MetFree (gl_l G) (mt_y μ) (headSpec (mt_w μ) (ct_R μ 1 6)) (ct_P G av h) (fun _ _ _ _ _ => True) (fun _ st o t => tx_Q G h st o t ∧ tx_F G st t 1 6)
/-- FROM HERE: it throws -/
def et_E (G : gl_G) (μ : mt_M) (pc : Nat) (lv : List (Nat × Value)) (st : List Value) (h : hp_T) : Prop :=
  ∀ (p : Program) (e : Env) (R : Room) (s : State) (m : MethodId) (args : Array Value) (below : List Frame) (meth : Method) (c : Code), cx_ok G μ p R s m args meth c → c.exceptionTable.toList = [] →
    ∀ (H : Heap) (locs : List Loc) (cells slots : Nat) (ls : Array Slot), hp_ok G h H → va_S (gl_A G) s.heap H locs → lv_has ls (mt_n μ) lv → cells + 1 ≤ R.cells → slots + 6 ≤ R.slots →
      W p (gl_l G) e R s m args below meth c H locs cells slots (fun t => ∃ o, t.status = .running ∧ Ended t below o ∧ tx_Q G h s o t ∧ tx_F G s t R.cells R.slots) (F0 m pc ls st)
theorem tx_of {G : gl_G} {μ : mt_M} {av : List Value} {h : hp_T} {ws' : List Cond} (hy : plainName (mt_y μ).cls = true) (hw : mt_w μ = Cond.code (mt_y μ) (mt_b μ) (mt_n μ) (mt_r μ) :: ws') (hn : (lg_sl av).length ≤ mt_n μ) (k : et_E G μ 0 (lv_args 0 av) [] h) : tx_D G μ av h := by
  intro hG
  refine MetFree.of_bodyS (code := mt_b μ) (maxLocals := mt_n μ) (ret := mt_r μ) hy ?_ ?_
  · intro args s m h0 hnm
    obtain ⟨meth, c, h1, h2, h3, h4, h5, h6, -, -⟩ := Cond.code_spec hnm (atoms_spec (ws := mt_w μ) h0 _ (by rw [hw]; exact List.mem_cons_self))
    exact ⟨meth, c, h1, h2, h3, h4, h5, h6⟩
  · intro p e s m args below meth c s₁ B hml hP _
    obtain ⟨rfl, hO, hbs, hK, hL⟩ := hP
    have hts := atoms_spec (ws := mt_w μ) B.pre
    have hown : s.vm.findClass (mt_y μ).cls = some m.cls := findClass_of_methodNamed B.named
    have htab : c.exceptionTable.isEmpty = true := B.noHandlers (hts _ (by rw [hw]; exact List.mem_cons_self))
    have htab' : c.exceptionTable.toList = [] := by
      have h0 : c.exceptionTable.size = 0 := by simpa [Array.isEmpty] using htab
      exact List.eq_nil_of_length_eq_zero (by simpa using h0)
    have hl := lv_entry av (n := mt_n μ) hn
    have hh0 : s₁.heap = s.heap := by rw [B.state]; rfl
    rw [lg_entry_eq]
    obtain ⟨t, a1, o, b1, b2, b3, b4⟩ := k p e (ct_R μ 1 6) s m _ below meth c ⟨B.exec, B.bytes, hml, B.returns, hown, hts, B.notSynchronized, (name_of_methodNamed B.named B.method).1, hK, hL, hbs, rfl, rfl, hG, B.named, hO.1.2⟩ htab' s.heap [] 0 0 _ hO va_S.rf hl (Nat.le_refl _) (Nat.le_refl _) s₁ hh0 (Stand.of_body B)
    exact ⟨t, o, a1, b1, b2, b3, b4⟩
variable {G : gl_G} {μ ν : mt_M} {pc : Nat} {lv : List (Nat × Value)} {st : List Value} {h : hp_T} {Z : Option Value → hp_T → Prop} {index n : Nat}
theorem et_pure {pc2 : Nat} {lv2 : List (Nat × Value)} {st2 : List Value}
    (hs : ∀ (p : Program) (e : Env) (R : Room) (s : State) (m : MethodId) (args : Array Value) (below : List Frame) (meth : Method) (c : Code), cx_ok G μ p R s m args meth c → ∀ (H : Heap) (locs : List Loc) (cells slots : Nat) (Q : State → Prop) (ls : Array Slot), hp_ok G h H → va_S (gl_A G) s.heap H locs → lv_has ls (mt_n μ) lv →
      (∀ ls2 : Array Slot, lv_has ls2 (mt_n μ) lv2 → W p (gl_l G) e R s m args below meth c H locs cells slots Q (F0 m pc2 ls2 st2)) → W p (gl_l G) e R s m args below meth c H locs cells slots Q (F0 m pc ls st))
    (k : et_E G μ pc2 lv2 st2 h) : et_E G μ pc lv st h :=
  fun p e R s m args below meth c C hT H locs cells slots ls hO hS hl hc hq => hs p e R s m args below meth c C H locs cells slots _ ls hO hS hl (fun ls2 hl2 => k p e R s m args below meth c C hT H locs cells slots ls2 hO hS hl2 hc hq)
theorem et_iconst {n : Int} {v : Int32} (hd : decode (mt_b μ) pc = .ok (.iconst n, 1)) (hv : Int32.ofInt n = v) (k : et_E G μ (pc + 1) lv (.int v :: st) h) : et_E G μ pc lv st h :=
  et_pure (fun _ _ _ _ _ _ _ _ _ C _ _ _ _ _ ls _ _ hl k => lv_iconst C.1 C.2.1 hd hv (k ls hl)) k
theorem et_iload_n {n : Fin 4} {i : Nat} {x : Int32} (hd : decode (mt_b μ) pc = .ok (.iload_n n, 1)) (hi : (n : Nat) = i) (hq : lq_at lv i = some (.int x)) (k : et_E G μ (pc + 1) lv (.int x :: st) h) : et_E G μ pc lv st h :=
  et_pure (fun _ _ _ _ _ _ _ _ _ C _ _ _ _ _ ls _ _ hl k => lv_iload_n C.1 C.2.1 hd hi (lq_has hl hq) (k ls hl)) k
theorem et_aload_n {n : Fin 4} {i : Nat} {x : Nat} (hd : decode (mt_b μ) pc = .ok (.aload_n n, 1)) (hi : (n : Nat) = i) (hq : lq_at lv i = some (.ref x)) (k : et_E G μ (pc + 1) lv (.ref x :: st) h) : et_E G μ pc lv st h :=
  et_pure (fun _ _ _ _ _ _ _ _ _ C _ _ _ _ _ ls _ _ hl k => lv_aload_n C.1 C.2.1 hd hi (lq_has hl hq) (k ls hl)) k
theorem et_istore_n {n : Fin 4} {i : Nat} {x : Int32} (hd : decode (mt_b μ) pc = .ok (.istore_n n, 1)) (hi : (n : Nat) = i) (hn : i < mt_n μ) (k : et_E G μ (pc + 1) (lq_put lv i (.int x)) st h) : et_E G μ pc lv (.int x :: st) h :=
  et_pure (fun _ _ _ _ _ _ _ _ _ C _ _ _ _ _ ls _ _ hl k => lv_istore_n C.1 C.2.1 hd hi hl hn rfl (fun ls' hl' => k ls' (lq_put_has hl'))) k
theorem et_icmp_ne {x : Int32} {off : Int} {tgt : Nat} (hd : decode (mt_b μ) pc = .ok (.if_icmp .ne off, 3)) (ht : (pc : Int) + off = (tgt : Int)) (kf : et_E G μ (pc + 3) lv st h) : et_E G μ pc lv (.int x :: .int x :: st) h :=
  et_pure (fun _ _ _ _ _ _ _ _ _ C _ _ _ _ _ ls _ _ hl k => lv_icmp_ne C.1 C.2.1 hd ht (fun z => absurd rfl z) (fun _ => k ls hl)) kf
theorem et_get {ci n a : Nat} {fs : List Value} {v : Value} (F : fa_at μ index ci n) (hd : decode (mt_b μ) pc = .ok (.getfield index, 3)) (he : h.2.2 a = some (.inr (ci, fs))) (hv : fs[n]? = some v) (kk : et_E G μ (pc + 3) lv (v :: st) h) : et_E G μ pc lv (.ref a :: st) h := by
  obtain ⟨C, T, N, ty, hc, hk, hin, hlink, -, -⟩ := F
  exact et_pure (fun _ _ _ _ _ _ _ _ _ X _ _ _ _ _ ls hO _ hl k => va_get X.1 X.2.1 X.2.2.2.2.2.1 hin X.2.2.2.2.1 X.2.2.2.2.2.2.2.2.1 (hO.one he) 0 rfl hc n hk (X.2.2.2.2.2.1 _ hlink) (fun _ z => z) hv hd (k ls hl)) kk
theorem et_Vv {b ci : Nat} {fs : List Value} {T : u_T} {N : Nat} {v : Value} (As rest : List Value) (F : ca_V μ ν index n) (hd : decode (mt_b μ) pc = .ok (.invokevirtual index, 3)) (hc : vwCl[ci]? = some ((mt_y ν).cls, T, N)) (he : h.2.2 b = some (.inr (ci, fs))) (hn : As.length = n) (hroom : (rest.map fun v => v.category).sum ≤ 8) (hM : ct_E G ν (.ref b :: As) h (cv v h)) (kk : et_E G μ (pc + 3) lv (v :: rest) h) : et_E G μ pc lv (As.reverse ++ .ref b :: rest) h := by
  obtain ⟨o1, h1, ⟨rfl, rfl⟩, le1, le2, M⟩ := hM
  obtain ⟨hgood, ⟨ws', hw⟩, hdd, hR⟩ := F
  intro p e R s m args below meth c X hT H locs cells slots ls hO hS hl hc1 hs1
  have X' := X
  obtain ⟨hx, hb, hml, hr, hown, hts, hlocks, hname, hK, hL, hbs, hRf, hRl, hG, hnmd, hns⟩ := X
  rw [← hRf, ← hRl] at hR
  refine wr_call (va_runV (As := As) (rest := rest) (Ts := mt_w μ) ⟨hx, hb, hml, hown, hts⟩ (M hG) (cwV n hts hgood hw rfl rfl ⟨rfl, hdd⟩ hR) ⟨ct_blind hG _ _, va_recv hK (hO.one he) hc (q0 := 0) rfl, ct_here X' hO hS (.ref b :: As)⟩ rfl hn hl.1 rfl (lv_room hroom) hd ⟨by omega, by omega⟩) hS (fun H1 locs1 hO1 hS1 => ?_)
  exact kk p e R s m args below meth c X' hT H1 locs1 _ _ ls hO1 hS1 hl (by omega) (by omega)
/-- a call of a method that throws: the note lies over the caller's frame -/
theorem tx_runV {p : Program} {e : Env} {R : Room} {s : State} {m : MethodId} {args : Array Value} {below : List Frame} {meth : Method} {c : Code} (Xc : cx_ok G μ p R s m args meth c) {H : Heap} {locs : List Loc} {cells slots : Nat} {ls : Array Slot} {b ci : Nat} {fs : List Value} {T : u_T} {N : Nat} (As rest : List Value) (F : ca_V μ ν index n) (hd : decode (mt_b μ) pc = .ok (.invokevirtual index, 3)) (hc : vwCl[ci]? = some ((mt_y ν).cls, T, N)) (he : h.2.2 b = some (.inr (ci, fs))) (hn : As.length = n) (hroom : (rest.map fun v => v.category).sum ≤ 8) (hM : tx_D G ν (.ref b :: As) h)
    (hO : hp_ok G h H) (hS : va_S (gl_A G) s.heap H locs) (hl : lv_has ls (mt_n μ) lv) (hc1 : cells + 1 ≤ R.cells) (hs1 : slots + 6 ≤ R.slots) {U : State} (hU : U.heap = H) (X : Stand p (gl_l G) e R s m args below meth c U locs cells slots) :
    ∃ (U' : State) (locs' : List Loc) (ce : Cell), Stand p (gl_l G) e R s m args below meth c U' locs' (cells + 1) (slots + 6) ∧ U'.heap[h.1]? = some ce ∧ ce.vm = .none ∧ s.vm.findClass tx_X = some ce.cls ∧ hp_ok G (hp_more h 1 6) U'.heap ∧ va_S (gl_A G) s.heap U'.heap locs' ∧
      ∀ target, Steps p.tables e below ((U'.setTop (F0 m pc ls rest)).pushFrame (.throwing h.1)) target → Steps p.tables e below (U.setTop (F0 m pc ls (As.reverse ++ .ref b :: rest))) target := by
  have X' := Xc
  obtain ⟨hx, hb, hml, hr, hown, hts, hlocks, hname, hK, hL, hbs, hRf, hRl, hG, hnmd, hns⟩ := Xc
  obtain ⟨hgood, ⟨ws', hw⟩, hdd, hR⟩ := F
  rw [← hRf, ← hRl] at hR
  have cw : CallW R s args (mt_y μ).cls (mt_y ν).cls index (mt_y ν) (mt_b ν) (mt_n ν) (mt_r ν) (mt_w ν) (ct_R ν 1 6) 1 6 n := cwV n hts hgood hw rfl rfl ⟨rfl, hdd⟩ hR
  obtain ⟨⟨-, -, hfr, hlo, hws, -, hcode, hini, hy, hlen, hlk⟩, hin, hse⟩ := cw
  obtain ⟨cellB, hcB, hoB, hclB⟩ := va_recv hK (hO.one he) hc (q0 := 0) rfl
  obtain ⟨mk, methM, hnamed, hmethM, hstM, habM⟩ := Cond.instanceMethod_spec hin
  obtain ⟨methM', cM, hmethM', hcM, -, hlM, -, -, -, hsigM⟩ := Cond.code_spec hnamed hcode
  cases hmethM.symm.trans hmethM'
  obtain ⟨c2, r2, m2, q1, q2, q3, q4, kP, hkP, hkPi⟩ := Cond.selects_spec hse
  cases hclB.symm.trans q1
  cases (State.methodFound?_of_named hnamed hy).symm.trans q2
  cases hnamed.symm.trans q3
  have hselP : selectMethod e.platform s.vm cellB.cls mk = .method mk := by rw [Launch.admits_selectMethod X.admits]; exact q4
  obtain ⟨vm₁, X₁, hstep₁⟩ := X.invokevirtual hx hown hlk hnamed hmethM hstM hkP hkPi hy (a := b) (cell := cellB) (by rw [hU]; exact hcB)
    (fun z hz => by rw [hz] at hoB; cases hoB) hselP hmethM habM hkP hkPi (g := F0 m pc ls (As.reverse ++ .ref b :: rest)) rfl (argsL := As) (rest := rest) (hn.trans (hlen _ hsigM)) rfl (by rw [hb]; exact hd)
  have hwarm := X₁.warmed
  obtain ⟨o, t, hsteps, hend, ⟨ce, rfl, f1, f2, f3, f4, f5⟩, L, ⟨hW2, hsame⟩, hLA⟩ := tc_into X₁ (hM hG) (g := F0 m pc ls rest) rfl (by rw [hml]; exact hl.1) (by rw [hb]; exact hd) (mk := mk) (a := (.ref b :: As : List Value).toArray) (X₁.named hnamed) (methY := methM) (cY := cM) (by rw [hwarm.alike.method?]; exact hmethM) hcM
    (word_at hwarm (Or.inl (by first | rfl | simp [Cond.onTables, Cond.keeps, Cond.steady])) hini) hfr (by
      have h8 : 2 * (F0 m pc ls rest).monitorRoom + (rest.map fun v => v.category).sum ≤ 8 := lv_room hroom
      have hlo' : 8 + (mt_n ν + 11) + mt_l ν ≤ R.locals := hlo
      rw [hlM]
      show 2 * (F0 m pc ls rest).monitorRoom + (rest.map fun v => v.category).sum + (mt_n ν + 11) + mt_l ν ≤ R.locals
      omega) hc1 hs1 (atoms_intro fun w hw => hws w hw _ _ hwarm) (ct_blind hG _ _ _ _ _ _ (ct_here X' hO hS (.ref b :: As) (U.setVm vm₁) hU hwarm))
  obtain ⟨U', XU, hWU, hsU, ht⟩ := X₁.outOfThrown (g := F0 m pc ls rest) rfl hend hW2 hsame
  have hhp : t.heap = U'.heap := by rw [ht]; exact Stand.throwing_heap _ _ _
  have hst : ((U.setVm vm₁).calling (F0 m pc ls rest) mk (.ref b :: As : List Value).toArray).heap = H := hU
  obtain ⟨hz, hk⟩ := f5
  rw [hst] at hz hk
  refine ⟨U', locs ++ L, ce, XU, by rw [← hhp]; exact f1, f2, ?_, by rw [← hhp]; exact f4, ⟨Nat.le_trans hS.1 (by rw [← hhp]; exact hz), fun q h1 h2 => by rw [← hhp, hk q (Nat.lt_of_lt_of_le h1 hS.1) h2]; exact hS.2.1 q h1 h2, fun q hq => ?_⟩, fun target hrest => ?_⟩
  · have f3' : vm₁.findClass tx_X = some ce.cls := f3
    rw [← hwarm.alike.findClass]
    exact f3'
  · rcases List.mem_append.mp hq with z | z
    · exact hS.2.2 q z
    · exact hLA q z
  · refine hstep₁ _ fun acts => ?_
    rw [doInvoke_state]
    refine hsteps.trans ?_
    rw [ht]
    exact hrest
theorem et_Vt {b ci : Nat} {fs : List Value} {T : u_T} {N : Nat} (As rest : List Value) (F : ca_V μ ν index n) (hd : decode (mt_b μ) pc = .ok (.invokevirtual index, 3)) (hc : vwCl[ci]? = some ((mt_y ν).cls, T, N)) (he : h.2.2 b = some (.inr (ci, fs))) (hn : As.length = n) (hroom : (rest.map fun v => v.category).sum ≤ 8) (hM : tx_D G ν (.ref b :: As) h) : et_E G μ pc lv (As.reverse ++ .ref b :: rest) h := by
  intro p e R s m args below meth c X hT H locs cells slots ls hO hS hl hc1 hs1 U hU XU
  obtain ⟨U', locs', ce, X', f1, f2, f3, f4, f5, hst⟩ := tx_runV X As rest F hd hc he hn hroom hM hO hS hl hc1 hs1 hU XU
  have hlocks : meth.locks = false := X.2.2.2.2.2.2.1
  obtain ⟨hwalk, hrun, hended, hWe, hsame⟩ := X'.leaveThrown h.1 (g := F0 m pc ls rest) rfl rfl rfl (by rw [hT]; intro x hx; cases hx)
  exact ⟨_, hst _ hwalk, _, hrun, hended, ⟨ce, rfl, f1, f2, f3, f4, f5.F rfl⟩, locs', ⟨hWe, hsame.weaken (fun y hy _ => hy) hc1 hs1⟩, f5.2.2⟩
/-- caught by the one row of the method's table -/
theorem ev_Vt {b ci a0 a1 hpc ix : Nat} {fs : List Value} {T : u_T} {N : Nat} (As rest : List Value) (F : ca_V μ ν index n) (hd : decode (mt_b μ) pc = .ok (.invokevirtual index, 3)) (hc : vwCl[ci]? = some ((mt_y ν).cls, T, N)) (he : h.2.2 b = some (.inr (ci, fs))) (hn : As.length = n) (hroom : (rest.map fun v => v.category).sum ≤ 8) (hM : tx_D G ν (.ref b :: As) h)
    (hw : Cond.codeWith (mt_y μ) (mt_b μ) (mt_n μ) (mt_r μ) [(a0, a1, hpc, ix)] ∈ mt_w μ) (h0 : a0 ≤ pc) (h1 : pc < a1) (hix : ix ≠ 0) (hcl : Cond.classLink (mt_y μ).cls ix tx_X ∈ mt_w μ) (hca : ∀ (U : State) (args : Array Value), gl_L G U → (Cond.castable tx_X tx_X).before args U = true) (kk : ev_E G μ hpc lv [.ref h.1] (hp_more h 1 6) Z) : ev_E G μ pc lv (As.reverse ++ .ref b :: rest) h Z := by
  refine ev_step (h2 := hp_more h 1 6) (Nat.le_succ _) (Nat.le_add_right _ _) (fun p e R s m args below meth c X H locs cells slots Q ls hO hS hl hc1 hs1 k => ?_) kk
  have z1 : (hp_more h 1 6).1 - h.1 = 1 := show h.1 + 1 - h.1 = 1 by omega
  have z2 : (hp_more h 1 6).2.1 - h.2.1 = 6 := show h.2.1 + 6 - h.2.1 = 6 by omega
  rw [z1] at hc1 k
  rw [z2] at hs1 k
  intro U hU XU
  obtain ⟨U', locs', ce, X', f1, f2, f3, f4, f5, hst⟩ := tx_runV X As rest F hd hc he hn hroom hM hO hS hl hc1 hs1 hU XU
  obtain ⟨hx, hb, hml, hr, hown, hts, hlocks, hname, hK, hL, hbs, hRf, hRl, hG, hnmd, hns⟩ := X
  obtain ⟨m2, meth2, c2, g1, g2, g3, g4, g5, g6, -, -, -⟩ := Cond.codeWith_spec (hts _ hw)
  cases hnmd.symm.trans g1
  cases XU.method.symm.trans g2
  cases XU.code.symm.trans g3
  obtain ⟨x, hx1, hx2⟩ : ∃ x : ExceptionTableEntry, c.exceptionTable.toList = [x] ∧ (x.startPc, x.endPc, x.handlerPc, x.catchType) = (a0, a1, hpc, ix) := by
    cases hl0 : c.exceptionTable.toList with
    | nil => rw [hl0] at g6; cases g6
    | cons x r =>
      rw [hl0] at g6
      cases r with
      | nil => exact ⟨x, rfl, (List.cons.inj g6).1⟩
      | cons y r => simp at g6
  simp only [Prod.mk.injEq] at hx2
  obtain ⟨e1, e2, e3, e4⟩ := hx2
  obtain ⟨c3, c4, hc3, hc4, hasg⟩ := Cond.castable_spec (hca s args hL)
  cases f3.symm.trans hc3
  cases f3.symm.trans hc4
  obtain ⟨vm', X'', hcatch⟩ := tc_caught X' (own := (mt_y μ).cls) (name := tx_X) (index := ix) hown (hts _ hcl) (a := h.1) hx1 e4 hix (g := F0 m pc ls rest) rfl (by simp only [covers, e1, e2]; simp [h0, h1]) f1 f2 f3 hasg
  rw [e3] at hcatch
  obtain ⟨t, a1, b1⟩ := k U'.heap locs' ls f4 f5 hl (U'.setVm vm') rfl X''
  exact ⟨t, hst t (hcatch t a1), b1⟩
theorem ev_ldcS {q : Nat} {tx : String} (hZ : ∀ U : State, gl_L G U → vk_R (mt_y μ).cls index tx q U) (hd : decode (mt_b μ) pc = .ok (.ldc index, 2)) (kk : ev_E G μ (pc + 2) lv (.ref q :: st) h Z) : ev_E G μ pc lv st h Z :=
  ev_pure (fun _ _ _ _ _ _ _ _ _ X _ _ _ _ _ ls _ _ hl k => va_ldcS X.1 X.2.1 X.2.2.2.2.1 (hZ _ X.2.2.2.2.2.2.2.2.2.1) hd (k ls hl)) kk
theorem va_Zq_ref {C n d : String} {A : Nat → Prop} {U : State} {args : Array Value} (k : va_Zq C n d A U U.heap) : (Cond.isRef (.static C n d)).before args U = true := by
  rcases k with ⟨cf, kf, fi, f, a, cell, h1, h2, h3, h4, h5, h6, h7, -⟩ | ⟨t, cf, kf, fi, f, a, cell, h1, h2, h3, h4, h5, h6, h7, -⟩ <;>
    simp [Cond.before, Cond.holds, Cond.value, Term.eval, State.fieldNamed?, h1, h2, h4, h5, h6, h7]
end THROWS
