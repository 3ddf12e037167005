/-! Methods that read alone, and the place where the exception is made -/
section PURE
/-- over the cells h, from here to (pc2, st2), nothing written -/
def pp_E (G : gl_G) (μ : mt_M) (h : hp_T) (pc : Nat) (lv : List (Nat × Value)) (st : List Value) (pc2 : Nat) (st2 : List Value) : Prop :=
  ∀ (p : Program) (e : Env) (R : Room) (s : State) (m : MethodId) (args : Array Value) (below : List Frame) (meth : Method) (c : Code), cx_ok G μ p R s m args meth c → ∀ (H : Heap) (locs : List Loc) (cells slots : Nat) (Q : State → Prop) (ls : Array Slot), hp_ok G h H → va_S (gl_A G) s.heap H locs → lv_has ls (mt_n μ) lv → cells ≤ R.cells → slots ≤ R.slots →
    (∀ ls2 : Array Slot, ls2.size = mt_n μ → W p (gl_l G) e R s m args below meth c H locs cells slots Q (F0 m pc2 ls2 st2)) → W p (gl_l G) e R s m args below meth c H locs cells slots Q (F0 m pc ls st)
/-- a method that answers v and writes nothing -/
def cp_D (G : gl_G) (μ : mt_M) (av : List Value) (h : hp_T) (v : Value) : Prop := gl_ok G → Met (gl_l G) (mt_y μ) (mt_w μ) (ct_R μ 0 0) (ct_P G av h) (fun _ st oc t => oc = .returned (some v) ∧ t.heap = st.heap) 0 0 (fun _ => False)
variable {G : gl_G} {μ ν : mt_M} {pc pc2 : Nat} {lv : List (Nat × Value)} {st st2 : List Value} {h : hp_T} {index n : Nat}
theorem pp_end : pp_E G μ h pc lv st pc st := fun _ _ _ _ _ _ _ _ _ _ _ _ _ _ _ ls _ _ hl _ _ kk => kk ls hl.1
theorem pp_pure {pc3 : Nat} {lv3 : List (Nat × Value)} {st3 : List Value}
    (hs : ∀ (p : Program) (e : Env) (R : Room) (s : State) (m : MethodId) (args : Array Value) (below : List Frame) (meth : Method) (c : Code), cx_ok G μ p R s m args meth c → ∀ (H : Heap) (locs : List Loc) (cells slots : Nat) (Q : State → Prop) (ls : Array Slot), hp_ok G h H → va_S (gl_A G) s.heap H locs → lv_has ls (mt_n μ) lv →
      (∀ ls2 : Array Slot, lv_has ls2 (mt_n μ) lv3 → W p (gl_l G) e R s m args below meth c H locs cells slots Q (F0 m pc3 ls2 st3)) → W p (gl_l G) e R s m args below meth c H locs cells slots Q (F0 m pc ls st))
    (k : pp_E G μ h pc3 lv3 st3 pc2 st2) : pp_E G μ h pc lv st pc2 st2 :=
  fun p e R s m args below meth c C H locs cells slots Q ls hO hS hl hc hq kk => hs p e R s m args below meth c C H locs cells slots Q ls hO hS hl (fun ls2 hl2 => k p e R s m args below meth c C H locs cells slots Q ls2 hO hS hl2 hc hq kk)
theorem pp_iconst {n : Int} {v : Int32} (hd : decode (mt_b μ) pc = .ok (.iconst n, 1)) (hv : Int32.ofInt n = v) (k : pp_E G μ h (pc + 1) lv (.int v :: st) pc2 st2) : pp_E G μ h pc lv st pc2 st2 :=
  pp_pure (fun _ _ _ _ _ _ _ _ _ C _ _ _ _ _ ls _ _ hl k => lv_iconst C.1 C.2.1 hd hv (k ls hl)) k
theorem pp_iload_n {n : Fin 4} {i : Nat} {x : Int32} (hd : decode (mt_b μ) pc = .ok (.iload_n n, 1)) (hi : (n : Nat) = i) (hq : lq_at lv i = some (.int x)) (k : pp_E G μ h (pc + 1) lv (.int x :: st) pc2 st2) : pp_E G μ h pc lv st pc2 st2 :=
  pp_pure (fun _ _ _ _ _ _ _ _ _ C _ _ _ _ _ ls _ _ hl k => lv_iload_n C.1 C.2.1 hd hi (lq_has hl hq) (k ls hl)) k
theorem pp_aload_n {n : Fin 4} {i : Nat} {x : Nat} (hd : decode (mt_b μ) pc = .ok (.aload_n n, 1)) (hi : (n : Nat) = i) (hq : lq_at lv i = some (.ref x)) (k : pp_E G μ h (pc + 1) lv (.ref x :: st) pc2 st2) : pp_E G μ h pc lv st pc2 st2 :=
  pp_pure (fun _ _ _ _ _ _ _ _ _ C _ _ _ _ _ ls _ _ hl k => lv_aload_n C.1 C.2.1 hd hi (lq_has hl hq) (k ls hl)) k
theorem pp_istore_n {n : Fin 4} {i : Nat} {x : Int32} (hd : decode (mt_b μ) pc = .ok (.istore_n n, 1)) (hi : (n : Nat) = i) (hn : i < mt_n μ) (k : pp_E G μ h (pc + 1) (lq_put lv i (.int x)) st pc2 st2) : pp_E G μ h pc lv (.int x :: st) pc2 st2 :=
  pp_pure (fun _ _ _ _ _ _ _ _ _ C _ _ _ _ _ ls _ _ hl k => lv_istore_n C.1 C.2.1 hd hi hl hn rfl (fun ls' hl' => k ls' (lq_put_has hl'))) k
theorem pp_isub {x y : Int32} (hd : decode (mt_b μ) pc = .ok (.isub, 1)) (k : pp_E G μ h (pc + 1) lv (.int (x - y) :: st) pc2 st2) : pp_E G μ h pc lv (.int y :: .int x :: st) pc2 st2 :=
  pp_pure (fun _ _ _ _ _ _ _ _ _ C _ _ _ _ _ ls _ _ hl k => lv_isub C.1 C.2.1 hd (k ls hl)) k
theorem pp_goto {off : Int} {tgt : Nat} (hd : decode (mt_b μ) pc = .ok (.goto off, 3)) (ht : (pc : Int) + off = (tgt : Int)) (k : pp_E G μ h tgt lv st pc2 st2) : pp_E G μ h pc lv st pc2 st2 :=
  pp_pure (fun _ _ _ _ _ _ _ _ _ C _ _ _ _ _ ls _ _ hl k => lv_goto C.1 C.2.1 hd ht (k ls hl)) k
theorem pp_icmp_ne {x y : Int32} {off : Int} {tgt : Nat} (hd : decode (mt_b μ) pc = .ok (.if_icmp .ne off, 3)) (ht : (pc : Int) + off = (tgt : Int)) (kt : ¬ x = y → pp_E G μ h tgt lv st pc2 st2) (kf : x = y → pp_E G μ h (pc + 3) lv st pc2 st2) : pp_E G μ h pc lv (.int y :: .int x :: st) pc2 st2 := by
  by_cases hc : x = y
  · exact pp_pure (fun _ _ _ _ _ _ _ _ _ C _ _ _ _ _ ls _ _ hl k => lv_icmp_ne C.1 C.2.1 hd ht (fun z => absurd hc z) (fun _ => k ls hl)) (kf hc)
  · exact pp_pure (fun _ _ _ _ _ _ _ _ _ C _ _ _ _ _ ls _ _ hl k => lv_icmp_ne C.1 C.2.1 hd ht (fun _ => k ls hl) (fun z => absurd z hc)) (kt hc)
theorem pp_icmp_ge {x y : Int32} {off : Int} {tgt : Nat} (hd : decode (mt_b μ) pc = .ok (.if_icmp .ge off, 3)) (ht : (pc : Int) + off = (tgt : Int)) (kt : y ≤ x → pp_E G μ h tgt lv st pc2 st2) (kf : ¬ y ≤ x → pp_E G μ h (pc + 3) lv st pc2 st2) : pp_E G μ h pc lv (.int y :: .int x :: st) pc2 st2 := by
  by_cases hc : y ≤ x
  · exact pp_pure (fun _ _ _ _ _ _ _ _ _ C _ _ _ _ _ ls _ _ hl k => lv_icmp_ge C.1 C.2.1 hd ht (fun _ => k ls hl) (fun z => absurd hc z)) (kt hc)
  · exact pp_pure (fun _ _ _ _ _ _ _ _ _ C _ _ _ _ _ ls _ _ hl k => lv_icmp_ge C.1 C.2.1 hd ht (fun z => absurd z hc) (fun _ => k ls hl)) (kf hc)
theorem pp_if_lt {x : Int32} {off : Int} {tgt : Nat} (hd : decode (mt_b μ) pc = .ok (.ifCond .lt off, 3)) (ht : (pc : Int) + off = (tgt : Int)) (kt : x < 0 → pp_E G μ h tgt lv st pc2 st2) (kf : ¬ x < 0 → pp_E G μ h (pc + 3) lv st pc2 st2) : pp_E G μ h pc lv (.int x :: st) pc2 st2 := by
  by_cases hc : x < 0
  · exact pp_pure (fun _ _ _ _ _ _ _ _ _ C _ _ _ _ _ ls _ _ hl k => lv_if_lt C.1 C.2.1 hd ht (fun _ => k ls hl) (fun z => absurd hc z)) (kt hc)
  · exact pp_pure (fun _ _ _ _ _ _ _ _ _ C _ _ _ _ _ ls _ _ hl k => lv_if_lt C.1 C.2.1 hd ht (fun z => absurd z hc) (fun _ => k ls hl)) (kf hc)
theorem pp_if_eq {x : Int32} {off : Int} {tgt : Nat} (hd : decode (mt_b μ) pc = .ok (.ifCond .eq off, 3)) (ht : (pc : Int) + off = (tgt : Int)) (kt : x = 0 → pp_E G μ h tgt lv st pc2 st2) (kf : ¬ x = 0 → pp_E G μ h (pc + 3) lv st pc2 st2) : pp_E G μ h pc lv (.int x :: st) pc2 st2 := by
  by_cases hc : x = 0
  · exact pp_pure (fun _ _ _ _ _ _ _ _ _ C _ _ _ _ _ ls _ _ hl k => lv_if_eq C.1 C.2.1 hd ht (fun _ => k ls hl) (fun z => absurd hc z)) (kt hc)
  · exact pp_pure (fun _ _ _ _ _ _ _ _ _ C _ _ _ _ _ ls _ _ hl k => lv_if_eq C.1 C.2.1 hd ht (fun z => absurd z hc) (fun _ => k ls hl)) (kf hc)
theorem pp_get {ci n a : Nat} {fs : List Value} {v : Value} (F : fa_at μ index ci n) (hd : decode (mt_b μ) pc = .ok (.getfield index, 3)) (he : h.2.2 a = some (.inr (ci, fs))) (hv : fs[n]? = some v) (kk : pp_E G μ h (pc + 3) lv (v :: st) pc2 st2) : pp_E G μ h pc lv (.ref a :: st) pc2 st2 := by
  obtain ⟨C, T, N, ty, hc, hk, hin, hlink, -, -⟩ := F
  exact pp_pure (fun _ _ _ _ _ _ _ _ _ X _ _ _ _ _ ls hO _ hl k => va_get X.1 X.2.1 X.2.2.2.2.2.1 hin X.2.2.2.2.1 X.2.2.2.2.2.2.2.2.1 (hO.one he) 0 rfl hc n hk (X.2.2.2.2.2.1 _ hlink) (fun _ z => z) hv hd (k ls hl)) kk
theorem pp_Vv {b ci : Nat} {fs : List Value} {T : u_T} {N : Nat} {v : Value} (As rest : List Value) (F : ca_V μ ν index n) (hd : decode (mt_b μ) pc = .ok (.invokevirtual index, 3)) (hc : vwCl[ci]? = some ((mt_y ν).cls, T, N)) (he : h.2.2 b = some (.inr (ci, fs))) (hn : As.length = n) (hroom : (rest.map fun v => v.category).sum ≤ 8) (hM : cp_D G ν (.ref b :: As) h v) (kk : pp_E G μ h (pc + 3) lv (v :: rest) pc2 st2) : pp_E G μ h pc lv (As.reverse ++ .ref b :: rest) pc2 st2 := by
  obtain ⟨hgood, ⟨ws', hw⟩, hdd, hR⟩ := F
  intro p e R s m args below meth c X H locs cells slots Q ls hO hS hl hc1 hs1 k
  have X' := X
  obtain ⟨hx, hb, hml, hr, hown, hts, hlocks, hname, hK, hL, hbs, hRf, hRl, hG, hnmd, hns⟩ := X
  rw [← hRf, ← hRl] at hR
  intro U hU XU
  obtain ⟨v', st₀, t, U', L, h0, XU', hLf, e1, e2, ⟨hv, hh⟩, go⟩ := va_runV (As := As) (rest := rest) (Ts := mt_w μ) (g := F0 m pc ls (As.reverse ++ .ref b :: rest)) ⟨hx, hb, hml, hown, hts⟩ (hM hG) (cwV n hts hgood hw rfl rfl ⟨rfl, hdd⟩ hR) ⟨ct_blind hG _ _, va_recv hK (hO.one he) hc (q0 := 0) rfl, ct_here X' hO hS (.ref b :: As)⟩ rfl hn hl.1 rfl (lv_room hroom) hd ⟨hc1, hs1⟩ U hU XU
  have hL0 : L = [] := List.eq_nil_iff_forall_not_mem.mpr fun q hq => hLf q hq
  subst hL0
  cases hv
  rw [List.append_nil] at XU'
  obtain ⟨t2, a1, b1⟩ := kk p e R s m args below meth c X' H locs cells slots Q ls hO hS hl hc1 hs1 k U' (by rw [e1, hh, h0]) XU'
  exact ⟨t2, go t2 a1, b1⟩
theorem cp_of {v : Int32} {av : List Value} {ws' : List Cond} (hy : plainName (mt_y μ).cls = true) (hw : mt_w μ = Cond.code (mt_y μ) (mt_b μ) (mt_n μ) (mt_r μ) :: ws') (hn : (lg_sl av).length ≤ mt_n μ) (hd : decode (mt_b μ) pc2 = .ok (.ireturn, 1)) (hr : mt_r μ = some .int) (k : pp_E G μ h 0 (lv_args 0 av) [] pc2 [.int v]) : cp_D G μ av h (.int v) := by
  intro hG
  refine Met.ofW (cc := mt_b μ) (maxL := mt_n μ) (ret := mt_r μ) hy hw ?_
  intro p e s m args below meth c s₁ B hml hv
  obtain ⟨rfl, hO, hbs, hK, hL⟩ := hv
  have hts := atoms_spec (ws := mt_w μ) B.pre
  have hown : s.vm.findClass (mt_y μ).cls = some m.cls := findClass_of_methodNamed B.named
  have hl := lv_entry av (n := mt_n μ) hn
  rw [lg_entry_eq]
  refine k p e (ct_R μ 0 0) s m _ below meth c ⟨B.exec, B.bytes, hml, B.returns, hown, hts, B.notSynchronized, (name_of_methodNamed B.named B.method).1, hK, hL, hbs, rfl, rfl, hG, B.named, hO.1.2⟩ s.heap [] 0 0 _ _ hO va_S.rf hl (Nat.le_refl _) (Nat.le_refl _) (fun ls2 h2 => ?_)
  exact W.iret B.exec B.bytes (B.returns.trans hr) (fun t ht _ => ⟨rfl, ht⟩) (fun q hq => by cases hq) hd B.notSynchronized
end PURE
section SITE
def tx_N : List String := ["java/lang/RuntimeException", "java/lang/Exception"]
def tx_U : Cond := .isRef (.static Bundle.tN "UNASSIGNED_STACK" Bundle.steD)
def tx_S : Cond := .isRef (.static Bundle.tN "SUPPRESSED_SENTINEL" Bundle.listD)
/-- words of the throw that the tables' walk does not carry -/
def tx_ws : List Cond := [tx_U, tx_S, .laysStatic Bundle.tN "UNASSIGNED_STACK" Bundle.steD, .laysStatic Bundle.tN "SUPPRESSED_SENTINEL" Bundle.listD, .declares (Bundle.initS "java/lang/RuntimeException"), .declares (Bundle.initS "java/lang/Exception"), .declares (Bundle.initS Bundle.tN), .castable tx_X tx_X]
variable {G : gl_G} {μ : mt_M} {pc index : Nat} {h : hp_T}
theorem tx_site {iidx sidx str : Nat} {tx : String} {av : List Value} {ws' : List Cond} (hy : plainName (mt_y μ).cls = true) (hw : mt_w μ = Cond.code (mt_y μ) (mt_b μ) (mt_n μ) (mt_r μ) :: ws') (hn : (lg_sl av).length ≤ mt_n μ) (k : pp_E G μ h 0 (lv_args 0 av) [] pc [])
    (hd1 : decode (mt_b μ) pc = .ok (.new index, 3)) (hd2 : decode (mt_b μ) (pc + 3) = .ok (.dup, 1)) (hd3 : decode (mt_b μ) (pc + 3 + 1) = .ok (.ldc sidx, 2)) (hd4 : decode (mt_b μ) (pc + 3 + 1 + 2) = .ok (.invokespecial iidx, 3)) (hd5 : decode (mt_b μ) (pc + 3 + 1 + 2 + 3) = .ok (.athrow, 1))
    (hcl : Cond.classLink (mt_y μ).cls index tx_X ∈ mt_w μ) (hinst : Cond.instantiable tx_X 6 ∈ mt_w μ) (hini : Cond.initialized tx_X ∈ mt_w μ) (hat : ∀ a ∈ Bundle.ownAtoms (mt_y μ).cls iidx tx_X tx_N, a ∈ mt_w μ ∨ a ∈ tx_ws)
    (hstr : ∀ U : State, gl_L G U → vk_R (mt_y μ).cls sidx tx str U) (hws : ∀ (U : State) (args : Array Value), gl_L G U → ∀ w ∈ tx_ws, w.before args U = true)
    (htr : ∀ e : Env, (gl_l G).admits e → e.platform.stackTraces = false) (hf : 5 < mt_f μ) (hlo : 200 ≤ mt_l μ) : tx_D G μ av h := by
  intro hG
  refine MetFree.of_bodyS (code := mt_b μ) (maxLocals := mt_n μ) (ret := mt_r μ) hy ?_ ?_
  · intro args s m h0 hnm
    obtain ⟨meth, c, h1, h2, h3, h4, h5, h6, -, -⟩ := Cond.code_spec hnm (atoms_spec (ws := mt_w μ) h0 _ (by rw [hw]; exact List.mem_cons_self))
    exact ⟨meth, c, h1, h2, h3, h4, h5, h6⟩
  · intro p e s m args below meth c s₁ B hml hP _
    obtain ⟨rfl, hO, hbs, hK, hL⟩ := hP
    have hts := atoms_spec (ws := mt_w μ) B.pre
    have hown : s.vm.findClass (mt_y μ).cls = some m.cls := findClass_of_methodNamed B.named
    have htab : c.exceptionTable.isEmpty = true := B.noHandlers (hts _ (by rw [hw]; exact List.mem_cons_self))
    have htab' : c.exceptionTable.toList = [] := by
      have h0 : c.exceptionTable.size = 0 := by simpa [Array.isEmpty] using htab
      exact List.eq_nil_of_length_eq_zero (by simpa using h0)
    have hl := lv_entry av (n := mt_n μ) hn
    have hh0 : s₁.heap = s.heap := by rw [B.state]; rfl
    have hlocks : meth.locks = false := B.notSynchronized
    rw [lg_entry_eq]
    have hX : cx_ok G μ p (ct_R μ 1 6) s m av.toArray meth c := ⟨B.exec, B.bytes, hml, B.returns, hown, hts, B.notSynchronized, (name_of_methodNamed B.named B.method).1, hK, hL, hbs, rfl, rfl, hG, B.named, hO.1.2⟩
    obtain ⟨t, a1, o, b1, b2, b3, b4⟩ := k p e (ct_R μ 1 6) s m av.toArray below meth c hX s.heap [] 0 0 (fun t => ∃ o, t.status = .running ∧ Ended t below o ∧ tx_Q G h s o t ∧ tx_F G s t 1 6) _ hO va_S.rf hl (Nat.zero_le _) (Nat.zero_le _) (fun ls2 hl2 => by
      refine W.newc B.exec B.bytes hown (hts _ hcl) (hts _ hinst) (hts _ hini) rfl hd1 (Nat.le_refl _) (Nat.le_refl _) (fun cC kC e1 e2 e3 e4 => ?_)
      refine W.eq (g2 := F0 m (pc + 3) ls2 [.ref s.heap.size]) rfl ?_
      refine lv_dup B.exec B.bytes hd2 rfl ?_
      refine va_ldcS B.exec B.bytes hown (hstr s hL) hd3 ?_
      intro U hU XU
      obtain ⟨V, hst, hrun, hended, hWV, hsame, ce, hce, hOwn⟩ := XU.ctorThrowS B.exec (htr e XU.admits) (own := (mt_y μ).cls) (cls := tx_X) (names := tx_N) (ic := iidx) hown (by decide +kernel) (by decide +kernel) (fun a ha => by
          rcases hat a ha with z | z
          · exact hts _ z
          · exact hws s _ hL a z) (fun x hx => by cases hx) (a := s.heap.size) (cX := cC) (kX := kC) e1 e2 (by rw [hU]; simp) (Nat.le_refl _) (msg := .ref str) rfl (g := F0 m (pc + 3 + 1 + 2) ls2 [.ref str, .ref s.heap.size, .ref s.heap.size]) rfl (hl2.trans hml.symm) rfl rfl (rest := []) rfl (by rw [B.bytes]; exact hd4) (by rw [B.bytes]; exact hd5) (by rw [htab']; intro x hx; cases hx) (by show 2 + 3 < mt_f μ; exact hf) (by
          show _ ≤ mt_l μ
          refine Nat.le_trans ?_ hlo
          exact Nat.le_of_ble_eq_true rfl) hlocks
      have hs1 := hsame.2.1
      have hs2 := hsame.2.2.1
      have hcl := (Array.getElem?_eq_some_iff.mp hce).1
      have hold : ∀ q : Nat, q < s.heap.size → V.heap[q]? = s.heap[q]? := fun q hq => by
        obtain ⟨cq, hcq⟩ : ∃ cq, s.heap[q]? = some cq := ⟨_, Array.getElem?_eq_getElem hq⟩
        rw [hcq]
        exact hsame.old_cell hcq
      have hsz : V.heap.size = s.heap.size + 1 := by
        have h1 : V.heap.size ≤ s.heap.size + (0 + 1) := hs2
        omega
      have hh1 := hO.1.1
      refine ⟨V, hst, .threw s.heap.size, hrun, hended, ⟨ce, by rw [hh1], by rw [← hh1]; exact hce, hOwn.vm, hOwn.cls, ⟨⟨by rw [hsz, hh1]; rfl, fun q cq hb hq => ?_⟩, fun a x hx => ?_⟩, by omega, fun q hq _ => hold q hq⟩, [], ⟨hWV, hsame⟩, fun q hq => by cases hq⟩
      · have hql := (Array.getElem?_eq_some_iff.mp hq).1
        by_cases hqs : q = s.heap.size
        · subst hqs
          cases hce.symm.trans hq
          exact hOwn.vm
        · exact hO.1.2 q cq hb (by rw [← hold q (by omega)]; exact hq)
      · have hx' : h.2.2 a = some x := hx
        obtain ⟨g1, g2⟩ := hO.2 a x hx'
        exact ⟨g1.kept (hold a (by rw [hh1]; exact hO.lt hx')), g2⟩) s₁ hh0 (Stand.of_body B)
    exact ⟨t, o, a1, b1, b2, b3, b4⟩
end SITE
