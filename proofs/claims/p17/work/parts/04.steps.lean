/-! locals by their numbers -/
def lq_at : List (Nat × Value) → Nat → Option Value
  | [], _ => none
  | (j, v) :: l, i => bif Nat.beq j i then some v else lq_at l i
theorem lq_mem {i : Nat} {v : Value} : ∀ {lv : List (Nat × Value)}, lq_at lv i = some v → (i, v) ∈ lv
  | [], h => by cases h
  | (j, w) :: l, h => by
    unfold lq_at at h
    cases hb : Nat.beq j i with
    | true =>
      rw [hb] at h
      have hji : j = i := Nat.eq_of_beq_eq_true hb
      subst hji
      cases h
      exact List.mem_cons_self
    | false =>
      rw [hb] at h
      exact List.mem_cons_of_mem _ (lq_mem h)
theorem lq_has {ls : Array Slot} {n i : Nat} {lv : List (Nat × Value)} {v : Value} (hl : lv_has ls n lv) (h : lq_at lv i = some v) : ls[i]? = some (.val v) := hl.2.2 (i, v) (lq_mem h)
def lq_out (i : Nat) : Nat × Value → Bool := fun q => !(q.1 == i) && !(q.1 + 1 == i && q.2.category == 2)
def lq_out2 (i : Nat) : Nat × Value → Bool := fun q => !(q.1 == i) && (!(q.1 == i + 1) && !(q.1 + 1 == i && q.2.category == 2))
/-- store in place, at the end where it is new -/
def lq_put : List (Nat × Value) → Nat → Value → List (Nat × Value)
  | [], i, v => [(i, v)]
  | q :: l, i, v => bif Nat.beq q.1 i then (i, v) :: l.filter (lq_out i) else bif lq_out i q then q :: lq_put l i v else lq_put l i v
def lq_put2 (lv : List (Nat × Value)) (i : Nat) (v : Value) : List (Nat × Value) := lv.filter (lq_out2 i) ++ [(i, v)]
theorem lq_put_mem {i : Nat} {v : Value} {x : Nat × Value} : ∀ {lv : List (Nat × Value)}, x ∈ lq_put lv i v → x ∈ (i, v) :: lv.filter (lq_out i)
  | [], h => by
    rw [lq_put] at h
    exact h
  | q :: l, h => by
    rw [lq_put] at h
    cases hb : Nat.beq q.1 i with
    | true =>
      rw [hb] at h
      rcases List.mem_cons.mp h with e | e
      · rw [e]; exact List.mem_cons_self
      · refine List.mem_cons_of_mem _ ?_
        obtain ⟨h1, h2⟩ := List.mem_filter.mp e
        exact List.mem_filter.mpr ⟨List.mem_cons_of_mem _ h1, h2⟩
    | false =>
      rw [hb] at h
      have sub : x ∈ lq_put l i v → x ∈ (i, v) :: (q :: l).filter (lq_out i) := fun z => by
        rcases List.mem_cons.mp (lq_put_mem z) with e | e
        · rw [e]; exact List.mem_cons_self
        · refine List.mem_cons_of_mem _ ?_
          obtain ⟨h1, h2⟩ := List.mem_filter.mp e
          exact List.mem_filter.mpr ⟨List.mem_cons_of_mem _ h1, h2⟩
      cases hc : lq_out i q with
      | true =>
        rw [hc] at h
        rcases List.mem_cons.mp h with e | e
        · rw [e]; exact List.mem_cons_of_mem _ (List.mem_filter.mpr ⟨List.mem_cons_self, hc⟩)
        · exact sub e
      | false =>
        rw [hc] at h
        exact sub h
theorem lq_put_has {ls : Array Slot} {n i : Nat} {lv : List (Nat × Value)} {v : Value} (hl : lv_has ls n ((i, v) :: lv.filter (fun q => !(q.1 == i) && !(q.1 + 1 == i && q.2.category == 2)))) : lv_has ls n (lq_put lv i v) :=
  ⟨hl.1, hl.2.1, fun q hq => hl.2.2 q (lq_put_mem hq)⟩
theorem lq_put2_has {ls : Array Slot} {n i : Nat} {lv : List (Nat × Value)} {v : Value} (hl : lv_has ls n ((i, v) :: lv.filter (fun q => !(q.1 == i) && (!(q.1 == i + 1) && !(q.1 + 1 == i && q.2.category == 2))))) : lv_has ls n (lq_put2 lv i v) :=
  ⟨hl.1, hl.2.1, fun q hq => hl.2.2 q (by
    rcases List.mem_append.mp hq with e | e
    · exact List.mem_cons_of_mem _ e
    · rw [List.mem_singleton.mp e]; exact List.mem_cons_self)⟩
/-- fewer locals, in any order -/
theorem ev_lv {G : gl_G} {μ : mt_M} {pc : Nat} {lv lv2 : List (Nat × Value)} {st : List Value} {h : hp_T} {Z : Option Value → hp_T → Prop} (hs : ∀ q ∈ lv2, lq_at lv q.1 = some q.2) (k : ev_E G μ pc lv2 st h Z) : ev_E G μ pc lv st h Z :=
  ev_pure (fun _ _ _ _ _ _ _ _ _ _ _ _ _ _ _ ls _ _ hl k => k ls ⟨hl.1, hl.2.1, fun q hq => hl.2.2 q (lq_mem (hs q hq))⟩) k
theorem ev_iconst {G : gl_G} {μ : mt_M} {pc : Nat} {lv : List (Nat × Value)} {st : List Value} {h : hp_T} {Z : Option Value → hp_T → Prop} {n : Int} {v : Int32} (hd : decode (mt_b μ) pc = .ok (.iconst n, 1)) (hv : Int32.ofInt n = v) (k : ev_E G μ (pc + 1) lv (.int v :: st) h Z) : ev_E G μ pc lv (st) h Z :=
  ev_pure (fun _ _ _ _ _ _ _ _ _ C _ _ _ _ _ ls _ _ hl k => lv_iconst C.1 C.2.1 hd hv (k ls hl)) k
theorem ev_bipush {G : gl_G} {μ : mt_M} {pc : Nat} {lv : List (Nat × Value)} {st : List Value} {h : hp_T} {Z : Option Value → hp_T → Prop} {n : Int} {v : Int32} (hd : decode (mt_b μ) pc = .ok (.bipush n, 2)) (hv : (Int8.ofInt n).toInt32 = v) (k : ev_E G μ (pc + 2) lv (.int v :: st) h Z) : ev_E G μ pc lv (st) h Z :=
  ev_pure (fun _ _ _ _ _ _ _ _ _ C _ _ _ _ _ ls _ _ hl k => lv_bipush C.1 C.2.1 hd hv (k ls hl)) k
theorem ev_sipush {G : gl_G} {μ : mt_M} {pc : Nat} {lv : List (Nat × Value)} {st : List Value} {h : hp_T} {Z : Option Value → hp_T → Prop} {n : Int} {v : Int32} (hd : decode (mt_b μ) pc = .ok (.sipush n, 3)) (hv : (Int16.ofInt n).toInt32 = v) (k : ev_E G μ (pc + 3) lv (.int v :: st) h Z) : ev_E G μ pc lv (st) h Z :=
  ev_pure (fun _ _ _ _ _ _ _ _ _ C _ _ _ _ _ ls _ _ hl k => lv_sipush C.1 C.2.1 hd hv (k ls hl)) k
theorem ev_lconst {G : gl_G} {μ : mt_M} {pc : Nat} {lv : List (Nat × Value)} {st : List Value} {h : hp_T} {Z : Option Value → hp_T → Prop} {n : Fin 2} {v : Int64} (hd : decode (mt_b μ) pc = .ok (.lconst n, 1)) (hv : Int64.ofNat (n : Nat) = v) (k : ev_E G μ (pc + 1) lv (.long v :: st) h Z) : ev_E G μ pc lv (st) h Z :=
  ev_pure (fun _ _ _ _ _ _ _ _ _ C _ _ _ _ _ ls _ _ hl k => lv_lconst C.1 C.2.1 hd hv (k ls hl)) k
theorem ev_iload_n {G : gl_G} {μ : mt_M} {pc : Nat} {lv : List (Nat × Value)} {st : List Value} {h : hp_T} {Z : Option Value → hp_T → Prop} {n : Fin 4} {i : Nat} {x : Int32} (hd : decode (mt_b μ) pc = .ok (.iload_n n, 1)) (hi : (n : Nat) = i) (hq : lq_at lv i = some (.int x)) (k : ev_E G μ (pc + 1) lv (.int x :: st) h Z) : ev_E G μ pc lv (st) h Z :=
  ev_pure (fun _ _ _ _ _ _ _ _ _ C _ _ _ _ _ ls _ _ hl k => lv_iload_n C.1 C.2.1 hd hi (lq_has hl hq) (k ls hl)) k
theorem ev_iload {G : gl_G} {μ : mt_M} {pc : Nat} {lv : List (Nat × Value)} {st : List Value} {h : hp_T} {Z : Option Value → hp_T → Prop} {i : Nat} {x : Int32} (hd : decode (mt_b μ) pc = .ok (.iload i, 2)) (hq : lq_at lv i = some (.int x)) (k : ev_E G μ (pc + 2) lv (.int x :: st) h Z) : ev_E G μ pc lv (st) h Z :=
  ev_pure (fun _ _ _ _ _ _ _ _ _ C _ _ _ _ _ ls _ _ hl k => lv_iload C.1 C.2.1 hd (lq_has hl hq) (k ls hl)) k
theorem ev_lload_n {G : gl_G} {μ : mt_M} {pc : Nat} {lv : List (Nat × Value)} {st : List Value} {h : hp_T} {Z : Option Value → hp_T → Prop} {n : Fin 4} {i : Nat} {x : Int64} (hd : decode (mt_b μ) pc = .ok (.lload_n n, 1)) (hi : (n : Nat) = i) (hq : lq_at lv i = some (.long x)) (k : ev_E G μ (pc + 1) lv (.long x :: st) h Z) : ev_E G μ pc lv (st) h Z :=
  ev_pure (fun _ _ _ _ _ _ _ _ _ C _ _ _ _ _ ls _ _ hl k => lv_lload_n C.1 C.2.1 hd hi (lq_has hl hq) (k ls hl)) k
theorem ev_lload {G : gl_G} {μ : mt_M} {pc : Nat} {lv : List (Nat × Value)} {st : List Value} {h : hp_T} {Z : Option Value → hp_T → Prop} {i : Nat} {x : Int64} (hd : decode (mt_b μ) pc = .ok (.lload i, 2)) (hq : lq_at lv i = some (.long x)) (k : ev_E G μ (pc + 2) lv (.long x :: st) h Z) : ev_E G μ pc lv (st) h Z :=
  ev_pure (fun _ _ _ _ _ _ _ _ _ C _ _ _ _ _ ls _ _ hl k => lv_lload C.1 C.2.1 hd (lq_has hl hq) (k ls hl)) k
theorem ev_aload_n {G : gl_G} {μ : mt_M} {pc : Nat} {lv : List (Nat × Value)} {st : List Value} {h : hp_T} {Z : Option Value → hp_T → Prop} {n : Fin 4} {i : Nat} {x : Nat} (hd : decode (mt_b μ) pc = .ok (.aload_n n, 1)) (hi : (n : Nat) = i) (hq : lq_at lv i = some (.ref x)) (k : ev_E G μ (pc + 1) lv (.ref x :: st) h Z) : ev_E G μ pc lv (st) h Z :=
  ev_pure (fun _ _ _ _ _ _ _ _ _ C _ _ _ _ _ ls _ _ hl k => lv_aload_n C.1 C.2.1 hd hi (lq_has hl hq) (k ls hl)) k
theorem ev_aload {G : gl_G} {μ : mt_M} {pc : Nat} {lv : List (Nat × Value)} {st : List Value} {h : hp_T} {Z : Option Value → hp_T → Prop} {i : Nat} {x : Nat} (hd : decode (mt_b μ) pc = .ok (.aload i, 2)) (hq : lq_at lv i = some (.ref x)) (k : ev_E G μ (pc + 2) lv (.ref x :: st) h Z) : ev_E G μ pc lv (st) h Z :=
  ev_pure (fun _ _ _ _ _ _ _ _ _ C _ _ _ _ _ ls _ _ hl k => lv_aload C.1 C.2.1 hd (lq_has hl hq) (k ls hl)) k
theorem ev_istore_n {G : gl_G} {μ : mt_M} {pc : Nat} {lv : List (Nat × Value)} {st : List Value} {h : hp_T} {Z : Option Value → hp_T → Prop} {n : Fin 4} {i : Nat} {x : Int32} (hd : decode (mt_b μ) pc = .ok (.istore_n n, 1)) (hi : (n : Nat) = i) (hn : i < mt_n μ) (k : ev_E G μ (pc + 1) (lq_put lv i (.int x)) st h Z) : ev_E G μ pc lv (.int x :: st) h Z :=
  ev_pure (fun _ _ _ _ _ _ _ _ _ C _ _ _ _ _ ls _ _ hl k => lv_istore_n C.1 C.2.1 hd hi hl hn rfl (fun ls' hl' => k ls' (lq_put_has hl'))) k
theorem ev_istore {G : gl_G} {μ : mt_M} {pc : Nat} {lv : List (Nat × Value)} {st : List Value} {h : hp_T} {Z : Option Value → hp_T → Prop} {i : Nat} {x : Int32} (hd : decode (mt_b μ) pc = .ok (.istore i, 2)) (hn : i < mt_n μ) (k : ev_E G μ (pc + 2) (lq_put lv i (.int x)) st h Z) : ev_E G μ pc lv (.int x :: st) h Z :=
  ev_pure (fun _ _ _ _ _ _ _ _ _ C _ _ _ _ _ ls _ _ hl k => lv_istore C.1 C.2.1 hd hl hn rfl (fun ls' hl' => k ls' (lq_put_has hl'))) k
theorem ev_astore_n {G : gl_G} {μ : mt_M} {pc : Nat} {lv : List (Nat × Value)} {st : List Value} {h : hp_T} {Z : Option Value → hp_T → Prop} {n : Fin 4} {i : Nat} {x : Nat} (hd : decode (mt_b μ) pc = .ok (.astore_n n, 1)) (hi : (n : Nat) = i) (hn : i < mt_n μ) (k : ev_E G μ (pc + 1) (lq_put lv i (.ref x)) st h Z) : ev_E G μ pc lv (.ref x :: st) h Z :=
  ev_pure (fun _ _ _ _ _ _ _ _ _ C _ _ _ _ _ ls _ _ hl k => lv_astore_n C.1 C.2.1 hd hi hl hn rfl (fun ls' hl' => k ls' (lq_put_has hl'))) k
theorem ev_astore {G : gl_G} {μ : mt_M} {pc : Nat} {lv : List (Nat × Value)} {st : List Value} {h : hp_T} {Z : Option Value → hp_T → Prop} {i : Nat} {x : Nat} (hd : decode (mt_b μ) pc = .ok (.astore i, 2)) (hn : i < mt_n μ) (k : ev_E G μ (pc + 2) (lq_put lv i (.ref x)) st h Z) : ev_E G μ pc lv (.ref x :: st) h Z :=
  ev_pure (fun _ _ _ _ _ _ _ _ _ C _ _ _ _ _ ls _ _ hl k => lv_astore C.1 C.2.1 hd hl hn rfl (fun ls' hl' => k ls' (lq_put_has hl'))) k
theorem ev_lstore_n {G : gl_G} {μ : mt_M} {pc : Nat} {lv : List (Nat × Value)} {st : List Value} {h : hp_T} {Z : Option Value → hp_T → Prop} {n : Fin 4} {i : Nat} {x : Int64} (hd : decode (mt_b μ) pc = .ok (.lstore_n n, 1)) (hi : (n : Nat) = i) (hn : i + 1 < mt_n μ) (k : ev_E G μ (pc + 1) (lq_put2 lv i (.long x)) st h Z) : ev_E G μ pc lv (.long x :: st) h Z :=
  ev_pure (fun _ _ _ _ _ _ _ _ _ C _ _ _ _ _ ls _ _ hl k => lv_lstore_n C.1 C.2.1 hd hi hl hn rfl (fun ls' hl' => k ls' (lq_put2_has hl'))) k
theorem ev_lstore {G : gl_G} {μ : mt_M} {pc : Nat} {lv : List (Nat × Value)} {st : List Value} {h : hp_T} {Z : Option Value → hp_T → Prop} {i : Nat} {x : Int64} (hd : decode (mt_b μ) pc = .ok (.lstore i, 2)) (hn : i + 1 < mt_n μ) (k : ev_E G μ (pc + 2) (lq_put2 lv i (.long x)) st h Z) : ev_E G μ pc lv (.long x :: st) h Z :=
  ev_pure (fun _ _ _ _ _ _ _ _ _ C _ _ _ _ _ ls _ _ hl k => lv_lstore C.1 C.2.1 hd hl hn rfl (fun ls' hl' => k ls' (lq_put2_has hl'))) k
theorem ev_iinc {G : gl_G} {μ : mt_M} {pc : Nat} {lv : List (Nat × Value)} {st : List Value} {h : hp_T} {Z : Option Value → hp_T → Prop} {i : Nat} {n : Int} {x : Int32} (hd : decode (mt_b μ) pc = .ok (.iinc i n, 3)) (hq : lq_at lv i = some (.int x)) (hn : i < mt_n μ) (k : ev_E G μ (pc + 3) (lq_put lv i (.int (x + Int32.ofInt n))) st h Z) : ev_E G μ pc lv st h Z := by
  obtain ⟨j, hj⟩ := List.getElem?_of_mem (lq_mem hq)
  exact ev_pure (fun _ _ _ _ _ _ _ _ _ C _ _ _ _ _ ls _ _ hl k => lv_iinc C.1 C.2.1 hd hl hj rfl hn rfl (fun ls' hl' => k ls' (lq_put_has hl'))) k
theorem ev_iadd {G : gl_G} {μ : mt_M} {pc : Nat} {lv : List (Nat × Value)} {st : List Value} {h : hp_T} {Z : Option Value → hp_T → Prop} {x y : Int32} (hd : decode (mt_b μ) pc = .ok (.iadd, 1)) (k : ev_E G μ (pc + 1) lv (.int (x + y) :: st) h Z) : ev_E G μ pc lv (.int y :: .int x :: st) h Z :=
  ev_pure (fun _ _ _ _ _ _ _ _ _ C _ _ _ _ _ ls _ _ hl k => lv_iadd C.1 C.2.1 hd (k ls hl)) k
theorem ev_isub {G : gl_G} {μ : mt_M} {pc : Nat} {lv : List (Nat × Value)} {st : List Value} {h : hp_T} {Z : Option Value → hp_T → Prop} {x y : Int32} (hd : decode (mt_b μ) pc = .ok (.isub, 1)) (k : ev_E G μ (pc + 1) lv (.int (x - y) :: st) h Z) : ev_E G μ pc lv (.int y :: .int x :: st) h Z :=
  ev_pure (fun _ _ _ _ _ _ _ _ _ C _ _ _ _ _ ls _ _ hl k => lv_isub C.1 C.2.1 hd (k ls hl)) k
theorem ev_imul {G : gl_G} {μ : mt_M} {pc : Nat} {lv : List (Nat × Value)} {st : List Value} {h : hp_T} {Z : Option Value → hp_T → Prop} {x y : Int32} (hd : decode (mt_b μ) pc = .ok (.imul, 1)) (k : ev_E G μ (pc + 1) lv (.int (x * y) :: st) h Z) : ev_E G μ pc lv (.int y :: .int x :: st) h Z :=
  ev_pure (fun _ _ _ _ _ _ _ _ _ C _ _ _ _ _ ls _ _ hl k => lv_imul C.1 C.2.1 hd (k ls hl)) k
theorem ev_iand {G : gl_G} {μ : mt_M} {pc : Nat} {lv : List (Nat × Value)} {st : List Value} {h : hp_T} {Z : Option Value → hp_T → Prop} {x y : Int32} (hd : decode (mt_b μ) pc = .ok (.iand, 1)) (k : ev_E G μ (pc + 1) lv (.int (x &&& y) :: st) h Z) : ev_E G μ pc lv (.int y :: .int x :: st) h Z :=
  ev_pure (fun _ _ _ _ _ _ _ _ _ C _ _ _ _ _ ls _ _ hl k => lv_iand C.1 C.2.1 hd (k ls hl)) k
theorem ev_ior {G : gl_G} {μ : mt_M} {pc : Nat} {lv : List (Nat × Value)} {st : List Value} {h : hp_T} {Z : Option Value → hp_T → Prop} {x y : Int32} (hd : decode (mt_b μ) pc = .ok (.ior, 1)) (k : ev_E G μ (pc + 1) lv (.int (x ||| y) :: st) h Z) : ev_E G μ pc lv (.int y :: .int x :: st) h Z :=
  ev_pure (fun _ _ _ _ _ _ _ _ _ C _ _ _ _ _ ls _ _ hl k => lv_ior C.1 C.2.1 hd (k ls hl)) k
theorem ev_ixor {G : gl_G} {μ : mt_M} {pc : Nat} {lv : List (Nat × Value)} {st : List Value} {h : hp_T} {Z : Option Value → hp_T → Prop} {x y : Int32} (hd : decode (mt_b μ) pc = .ok (.ixor, 1)) (k : ev_E G μ (pc + 1) lv (.int (x ^^^ y) :: st) h Z) : ev_E G μ pc lv (.int y :: .int x :: st) h Z :=
  ev_pure (fun _ _ _ _ _ _ _ _ _ C _ _ _ _ _ ls _ _ hl k => lv_ixor C.1 C.2.1 hd (k ls hl)) k
theorem ev_ishl {G : gl_G} {μ : mt_M} {pc : Nat} {lv : List (Nat × Value)} {st : List Value} {h : hp_T} {Z : Option Value → hp_T → Prop} {x y : Int32} (hd : decode (mt_b μ) pc = .ok (.ishl, 1)) (k : ev_E G μ (pc + 1) lv (.int (x <<< (y &&& 31)) :: st) h Z) : ev_E G μ pc lv (.int y :: .int x :: st) h Z :=
  ev_pure (fun _ _ _ _ _ _ _ _ _ C _ _ _ _ _ ls _ _ hl k => lv_ishl C.1 C.2.1 hd (k ls hl)) k
theorem ev_ishr {G : gl_G} {μ : mt_M} {pc : Nat} {lv : List (Nat × Value)} {st : List Value} {h : hp_T} {Z : Option Value → hp_T → Prop} {x y : Int32} (hd : decode (mt_b μ) pc = .ok (.ishr, 1)) (k : ev_E G μ (pc + 1) lv (.int (x >>> (y &&& 31)) :: st) h Z) : ev_E G μ pc lv (.int y :: .int x :: st) h Z :=
  ev_pure (fun _ _ _ _ _ _ _ _ _ C _ _ _ _ _ ls _ _ hl k => lv_ishr C.1 C.2.1 hd (k ls hl)) k
theorem ev_idiv {G : gl_G} {μ : mt_M} {pc : Nat} {lv : List (Nat × Value)} {st : List Value} {h : hp_T} {Z : Option Value → hp_T → Prop} {x y : Int32} (hd : decode (mt_b μ) pc = .ok (.idiv, 1)) (hne : ¬ y = 0) (k : ev_E G μ (pc + 1) lv (.int (x / y) :: st) h Z) : ev_E G μ pc lv (.int y :: .int x :: st) h Z :=
  ev_pure (fun _ _ _ _ _ _ _ _ _ C _ _ _ _ _ ls _ _ hl k => lv_idiv C.1 C.2.1 hd hne (k ls hl)) k
theorem ev_irem {G : gl_G} {μ : mt_M} {pc : Nat} {lv : List (Nat × Value)} {st : List Value} {h : hp_T} {Z : Option Value → hp_T → Prop} {x y : Int32} (hd : decode (mt_b μ) pc = .ok (.irem, 1)) (hne : ¬ y = 0) (k : ev_E G μ (pc + 1) lv (.int (x - x / y * y) :: st) h Z) : ev_E G μ pc lv (.int y :: .int x :: st) h Z :=
  ev_pure (fun _ _ _ _ _ _ _ _ _ C _ _ _ _ _ ls _ _ hl k => lv_irem C.1 C.2.1 hd hne (k ls hl)) k
theorem ev_ineg {G : gl_G} {μ : mt_M} {pc : Nat} {lv : List (Nat × Value)} {st : List Value} {h : hp_T} {Z : Option Value → hp_T → Prop} {x : Int32} (hd : decode (mt_b μ) pc = .ok (.ineg, 1)) (k : ev_E G μ (pc + 1) lv (.int (-x) :: st) h Z) : ev_E G μ pc lv (.int x :: st) h Z :=
  ev_pure (fun _ _ _ _ _ _ _ _ _ C _ _ _ _ _ ls _ _ hl k => lv_ineg C.1 C.2.1 hd (k ls hl)) k
theorem ev_ladd {G : gl_G} {μ : mt_M} {pc : Nat} {lv : List (Nat × Value)} {st : List Value} {h : hp_T} {Z : Option Value → hp_T → Prop} {x y : Int64} (hd : decode (mt_b μ) pc = .ok (.ladd, 1)) (k : ev_E G μ (pc + 1) lv (.long (x + y) :: st) h Z) : ev_E G μ pc lv (.long y :: .long x :: st) h Z :=
  ev_pure (fun _ _ _ _ _ _ _ _ _ C _ _ _ _ _ ls _ _ hl k => lv_ladd C.1 C.2.1 hd (k ls hl)) k
theorem ev_lsub {G : gl_G} {μ : mt_M} {pc : Nat} {lv : List (Nat × Value)} {st : List Value} {h : hp_T} {Z : Option Value → hp_T → Prop} {x y : Int64} (hd : decode (mt_b μ) pc = .ok (.lsub, 1)) (k : ev_E G μ (pc + 1) lv (.long (x - y) :: st) h Z) : ev_E G μ pc lv (.long y :: .long x :: st) h Z :=
  ev_pure (fun _ _ _ _ _ _ _ _ _ C _ _ _ _ _ ls _ _ hl k => lv_lsub C.1 C.2.1 hd (k ls hl)) k
theorem ev_lmul {G : gl_G} {μ : mt_M} {pc : Nat} {lv : List (Nat × Value)} {st : List Value} {h : hp_T} {Z : Option Value → hp_T → Prop} {x y : Int64} (hd : decode (mt_b μ) pc = .ok (.lmul, 1)) (k : ev_E G μ (pc + 1) lv (.long (x * y) :: st) h Z) : ev_E G μ pc lv (.long y :: .long x :: st) h Z :=
  ev_pure (fun _ _ _ _ _ _ _ _ _ C _ _ _ _ _ ls _ _ hl k => lv_lmul C.1 C.2.1 hd (k ls hl)) k
theorem ev_land {G : gl_G} {μ : mt_M} {pc : Nat} {lv : List (Nat × Value)} {st : List Value} {h : hp_T} {Z : Option Value → hp_T → Prop} {x y : Int64} (hd : decode (mt_b μ) pc = .ok (.land, 1)) (k : ev_E G μ (pc + 1) lv (.long (x &&& y) :: st) h Z) : ev_E G μ pc lv (.long y :: .long x :: st) h Z :=
  ev_pure (fun _ _ _ _ _ _ _ _ _ C _ _ _ _ _ ls _ _ hl k => lv_land C.1 C.2.1 hd (k ls hl)) k
theorem ev_lor {G : gl_G} {μ : mt_M} {pc : Nat} {lv : List (Nat × Value)} {st : List Value} {h : hp_T} {Z : Option Value → hp_T → Prop} {x y : Int64} (hd : decode (mt_b μ) pc = .ok (.lor, 1)) (k : ev_E G μ (pc + 1) lv (.long (x ||| y) :: st) h Z) : ev_E G μ pc lv (.long y :: .long x :: st) h Z :=
  ev_pure (fun _ _ _ _ _ _ _ _ _ C _ _ _ _ _ ls _ _ hl k => lv_lor C.1 C.2.1 hd (k ls hl)) k
theorem ev_i2l {G : gl_G} {μ : mt_M} {pc : Nat} {lv : List (Nat × Value)} {st : List Value} {h : hp_T} {Z : Option Value → hp_T → Prop} {x : Int32} (hd : decode (mt_b μ) pc = .ok (.i2l, 1)) (k : ev_E G μ (pc + 1) lv (.long x.toInt64 :: st) h Z) : ev_E G μ pc lv (.int x :: st) h Z :=
  ev_pure (fun _ _ _ _ _ _ _ _ _ C _ _ _ _ _ ls _ _ hl k => lv_i2l C.1 C.2.1 hd rfl (k ls hl)) k
theorem ev_l2i {G : gl_G} {μ : mt_M} {pc : Nat} {lv : List (Nat × Value)} {st : List Value} {h : hp_T} {Z : Option Value → hp_T → Prop} {x : Int64} (hd : decode (mt_b μ) pc = .ok (.l2i, 1)) (k : ev_E G μ (pc + 1) lv (.int x.toInt32 :: st) h Z) : ev_E G μ pc lv (.long x :: st) h Z :=
  ev_pure (fun _ _ _ _ _ _ _ _ _ C _ _ _ _ _ ls _ _ hl k => lv_l2i C.1 C.2.1 hd rfl (k ls hl)) k
theorem ev_i2b {G : gl_G} {μ : mt_M} {pc : Nat} {lv : List (Nat × Value)} {st : List Value} {h : hp_T} {Z : Option Value → hp_T → Prop} {x : Int32} (hd : decode (mt_b μ) pc = .ok (.i2b, 1)) (k : ev_E G μ (pc + 1) lv (.int x.toInt8.toInt32 :: st) h Z) : ev_E G μ pc lv (.int x :: st) h Z :=
  ev_pure (fun _ _ _ _ _ _ _ _ _ C _ _ _ _ _ ls _ _ hl k => lv_i2b C.1 C.2.1 hd rfl (k ls hl)) k
theorem ev_i2c {G : gl_G} {μ : mt_M} {pc : Nat} {lv : List (Nat × Value)} {st : List Value} {h : hp_T} {Z : Option Value → hp_T → Prop} {x : Int32} (hd : decode (mt_b μ) pc = .ok (.i2c, 1)) (k : ev_E G μ (pc + 1) lv (.int (x.toUInt32 % 65536).toInt32 :: st) h Z) : ev_E G μ pc lv (.int x :: st) h Z :=
  ev_pure (fun _ _ _ _ _ _ _ _ _ C _ _ _ _ _ ls _ _ hl k => lv_i2c C.1 C.2.1 hd rfl (k ls hl)) k
theorem ev_iushr {G : gl_G} {μ : mt_M} {pc : Nat} {lv : List (Nat × Value)} {st : List Value} {h : hp_T} {Z : Option Value → hp_T → Prop} {x y : Int32} (hd : decode (mt_b μ) pc = .ok (.iushr, 1)) (k : ev_E G μ (pc + 1) lv (.int (x.toUInt32 >>> (y.toUInt32 &&& Int32.toUInt32 31)).toInt32 :: st) h Z) : ev_E G μ pc lv (.int y :: .int x :: st) h Z :=
  ev_pure (fun _ _ _ _ _ _ _ _ _ C _ _ _ _ _ ls _ _ hl k => lv_iushr C.1 C.2.1 hd rfl (k ls hl)) k
theorem ev_lcmp {G : gl_G} {μ : mt_M} {pc : Nat} {lv : List (Nat × Value)} {st : List Value} {h : hp_T} {Z : Option Value → hp_T → Prop} {x y : Int64} (hd : decode (mt_b μ) pc = .ok (.lcmp, 1)) (k : ev_E G μ (pc + 1) lv (.int (lg_cmp x y) :: st) h Z) : ev_E G μ pc lv (.long y :: .long x :: st) h Z :=
  ev_pure (fun _ _ _ _ _ _ _ _ _ C _ _ _ _ _ ls _ _ hl k => W.lcmp C.1 C.2.1 hd (k ls hl)) k
theorem ev_dup {G : gl_G} {μ : mt_M} {pc : Nat} {lv : List (Nat × Value)} {st : List Value} {h : hp_T} {Z : Option Value → hp_T → Prop} {va : Value} (hd : decode (mt_b μ) pc = .ok (.dup, 1)) (h1 : va.category = 1) (k : ev_E G μ (pc + 1) lv (va :: va :: st) h Z) : ev_E G μ pc lv (va :: st) h Z :=
  ev_pure (fun _ _ _ _ _ _ _ _ _ C _ _ _ _ _ ls _ _ hl k => lv_dup C.1 C.2.1 hd h1 (k ls hl)) k
theorem ev_pop {G : gl_G} {μ : mt_M} {pc : Nat} {lv : List (Nat × Value)} {st : List Value} {h : hp_T} {Z : Option Value → hp_T → Prop} {va : Value} (hd : decode (mt_b μ) pc = .ok (.pop, 1)) (h1 : va.category = 1) (k : ev_E G μ (pc + 1) lv (st) h Z) : ev_E G μ pc lv (va :: st) h Z :=
  ev_pure (fun _ _ _ _ _ _ _ _ _ C _ _ _ _ _ ls _ _ hl k => lv_pop C.1 C.2.1 hd h1 (k ls hl)) k
theorem ev_dup_x1 {G : gl_G} {μ : mt_M} {pc : Nat} {lv : List (Nat × Value)} {st : List Value} {h : hp_T} {Z : Option Value → hp_T → Prop} {va vb : Value} (hd : decode (mt_b μ) pc = .ok (.dup_x1, 1)) (h1 : va.category = 1) (h2 : vb.category = 1) (k : ev_E G μ (pc + 1) lv (va :: vb :: va :: st) h Z) : ev_E G μ pc lv (va :: vb :: st) h Z :=
  ev_pure (fun _ _ _ _ _ _ _ _ _ C _ _ _ _ _ ls _ _ hl k => lv_dup_x1 C.1 C.2.1 hd h1 h2 (k ls hl)) k
theorem ev_dup2_11 {G : gl_G} {μ : mt_M} {pc : Nat} {lv : List (Nat × Value)} {st : List Value} {h : hp_T} {Z : Option Value → hp_T → Prop} {va vb : Value} (hd : decode (mt_b μ) pc = .ok (.dup2, 1)) (h1 : va.category = 1) (h2 : vb.category = 1) (k : ev_E G μ (pc + 1) lv (va :: vb :: va :: vb :: st) h Z) : ev_E G μ pc lv (va :: vb :: st) h Z :=
  ev_pure (fun _ _ _ _ _ _ _ _ _ C _ _ _ _ _ ls _ _ hl k => lv_dup2_11 C.1 C.2.1 hd h1 h2 (k ls hl)) k
theorem ev_goto {G : gl_G} {μ : mt_M} {pc : Nat} {lv : List (Nat × Value)} {st : List Value} {h : hp_T} {Z : Option Value → hp_T → Prop} {off : Int} {tgt : Nat} (hd : decode (mt_b μ) pc = .ok (.goto off, 3)) (ht : (pc : Int) + off = (tgt : Int)) (k : ev_E G μ tgt lv st h Z) : ev_E G μ pc lv st h Z :=
  ev_pure (fun _ _ _ _ _ _ _ _ _ C _ _ _ _ _ ls _ _ hl k => lv_goto C.1 C.2.1 hd ht (k ls hl)) k
theorem ev_if_eq {G : gl_G} {μ : mt_M} {pc : Nat} {lv : List (Nat × Value)} {st : List Value} {h : hp_T} {Z : Option Value → hp_T → Prop} {x : Int32} {off : Int} {tgt : Nat} (hd : decode (mt_b μ) pc = .ok (.ifCond .eq off, 3)) (ht : (pc : Int) + off = (tgt : Int)) (kt : x = 0 → ev_E G μ tgt lv st h Z) (kf : ¬ (x = 0) → ev_E G μ (pc + 3) lv st h Z) : ev_E G μ pc lv (.int x :: st) h Z := by
  by_cases hc : x = 0
  · exact ev_pure (fun _ _ _ _ _ _ _ _ _ C _ _ _ _ _ ls _ _ hl k => lv_if_eq C.1 C.2.1 hd ht (fun _ => k ls hl) (fun z => absurd hc z)) (kt hc)
  · exact ev_pure (fun _ _ _ _ _ _ _ _ _ C _ _ _ _ _ ls _ _ hl k => lv_if_eq C.1 C.2.1 hd ht (fun z => absurd z hc) (fun _ => k ls hl)) (kf hc)
theorem ev_icmp_eq {G : gl_G} {μ : mt_M} {pc : Nat} {lv : List (Nat × Value)} {st : List Value} {h : hp_T} {Z : Option Value → hp_T → Prop} {x y : Int32} {off : Int} {tgt : Nat} (hd : decode (mt_b μ) pc = .ok (.if_icmp .eq off, 3)) (ht : (pc : Int) + off = (tgt : Int)) (kt : x = y → ev_E G μ tgt lv st h Z) (kf : ¬ (x = y) → ev_E G μ (pc + 3) lv st h Z) : ev_E G μ pc lv (.int y :: .int x :: st) h Z := by
  by_cases hc : x = y
  · exact ev_pure (fun _ _ _ _ _ _ _ _ _ C _ _ _ _ _ ls _ _ hl k => lv_icmp_eq C.1 C.2.1 hd ht (fun _ => k ls hl) (fun z => absurd hc z)) (kt hc)
  · exact ev_pure (fun _ _ _ _ _ _ _ _ _ C _ _ _ _ _ ls _ _ hl k => lv_icmp_eq C.1 C.2.1 hd ht (fun z => absurd z hc) (fun _ => k ls hl)) (kf hc)
theorem ev_if_ne {G : gl_G} {μ : mt_M} {pc : Nat} {lv : List (Nat × Value)} {st : List Value} {h : hp_T} {Z : Option Value → hp_T → Prop} {x : Int32} {off : Int} {tgt : Nat} (hd : decode (mt_b μ) pc = .ok (.ifCond .ne off, 3)) (ht : (pc : Int) + off = (tgt : Int)) (kt : ¬ x = 0 → ev_E G μ tgt lv st h Z) (kf : x = 0 → ev_E G μ (pc + 3) lv st h Z) : ev_E G μ pc lv (.int x :: st) h Z := by
  by_cases hc : x = 0
  · exact ev_pure (fun _ _ _ _ _ _ _ _ _ C _ _ _ _ _ ls _ _ hl k => lv_if_ne C.1 C.2.1 hd ht (fun z => absurd hc z) (fun _ => k ls hl)) (kf hc)
  · exact ev_pure (fun _ _ _ _ _ _ _ _ _ C _ _ _ _ _ ls _ _ hl k => lv_if_ne C.1 C.2.1 hd ht (fun _ => k ls hl) (fun z => absurd z hc)) (kt hc)
theorem ev_icmp_ne {G : gl_G} {μ : mt_M} {pc : Nat} {lv : List (Nat × Value)} {st : List Value} {h : hp_T} {Z : Option Value → hp_T → Prop} {x y : Int32} {off : Int} {tgt : Nat} (hd : decode (mt_b μ) pc = .ok (.if_icmp .ne off, 3)) (ht : (pc : Int) + off = (tgt : Int)) (kt : ¬ x = y → ev_E G μ tgt lv st h Z) (kf : x = y → ev_E G μ (pc + 3) lv st h Z) : ev_E G μ pc lv (.int y :: .int x :: st) h Z := by
  by_cases hc : x = y
  · exact ev_pure (fun _ _ _ _ _ _ _ _ _ C _ _ _ _ _ ls _ _ hl k => lv_icmp_ne C.1 C.2.1 hd ht (fun z => absurd hc z) (fun _ => k ls hl)) (kf hc)
  · exact ev_pure (fun _ _ _ _ _ _ _ _ _ C _ _ _ _ _ ls _ _ hl k => lv_icmp_ne C.1 C.2.1 hd ht (fun _ => k ls hl) (fun z => absurd z hc)) (kt hc)
theorem ev_if_lt {G : gl_G} {μ : mt_M} {pc : Nat} {lv : List (Nat × Value)} {st : List Value} {h : hp_T} {Z : Option Value → hp_T → Prop} {x : Int32} {off : Int} {tgt : Nat} (hd : decode (mt_b μ) pc = .ok (.ifCond .lt off, 3)) (ht : (pc : Int) + off = (tgt : Int)) (kt : x < 0 → ev_E G μ tgt lv st h Z) (kf : ¬ (x < 0) → ev_E G μ (pc + 3) lv st h Z) : ev_E G μ pc lv (.int x :: st) h Z := by
  by_cases hc : x < 0
  · exact ev_pure (fun _ _ _ _ _ _ _ _ _ C _ _ _ _ _ ls _ _ hl k => lv_if_lt C.1 C.2.1 hd ht (fun _ => k ls hl) (fun z => absurd hc z)) (kt hc)
  · exact ev_pure (fun _ _ _ _ _ _ _ _ _ C _ _ _ _ _ ls _ _ hl k => lv_if_lt C.1 C.2.1 hd ht (fun z => absurd z hc) (fun _ => k ls hl)) (kf hc)
theorem ev_icmp_lt {G : gl_G} {μ : mt_M} {pc : Nat} {lv : List (Nat × Value)} {st : List Value} {h : hp_T} {Z : Option Value → hp_T → Prop} {x y : Int32} {off : Int} {tgt : Nat} (hd : decode (mt_b μ) pc = .ok (.if_icmp .lt off, 3)) (ht : (pc : Int) + off = (tgt : Int)) (kt : x < y → ev_E G μ tgt lv st h Z) (kf : ¬ (x < y) → ev_E G μ (pc + 3) lv st h Z) : ev_E G μ pc lv (.int y :: .int x :: st) h Z := by
  by_cases hc : x < y
  · exact ev_pure (fun _ _ _ _ _ _ _ _ _ C _ _ _ _ _ ls _ _ hl k => lv_icmp_lt C.1 C.2.1 hd ht (fun _ => k ls hl) (fun z => absurd hc z)) (kt hc)
  · exact ev_pure (fun _ _ _ _ _ _ _ _ _ C _ _ _ _ _ ls _ _ hl k => lv_icmp_lt C.1 C.2.1 hd ht (fun z => absurd z hc) (fun _ => k ls hl)) (kf hc)
theorem ev_if_ge {G : gl_G} {μ : mt_M} {pc : Nat} {lv : List (Nat × Value)} {st : List Value} {h : hp_T} {Z : Option Value → hp_T → Prop} {x : Int32} {off : Int} {tgt : Nat} (hd : decode (mt_b μ) pc = .ok (.ifCond .ge off, 3)) (ht : (pc : Int) + off = (tgt : Int)) (kt : 0 ≤ x → ev_E G μ tgt lv st h Z) (kf : ¬ (0 ≤ x) → ev_E G μ (pc + 3) lv st h Z) : ev_E G μ pc lv (.int x :: st) h Z := by
  by_cases hc : 0 ≤ x
  · exact ev_pure (fun _ _ _ _ _ _ _ _ _ C _ _ _ _ _ ls _ _ hl k => lv_if_ge C.1 C.2.1 hd ht (fun _ => k ls hl) (fun z => absurd hc z)) (kt hc)
  · exact ev_pure (fun _ _ _ _ _ _ _ _ _ C _ _ _ _ _ ls _ _ hl k => lv_if_ge C.1 C.2.1 hd ht (fun z => absurd z hc) (fun _ => k ls hl)) (kf hc)
theorem ev_icmp_ge {G : gl_G} {μ : mt_M} {pc : Nat} {lv : List (Nat × Value)} {st : List Value} {h : hp_T} {Z : Option Value → hp_T → Prop} {x y : Int32} {off : Int} {tgt : Nat} (hd : decode (mt_b μ) pc = .ok (.if_icmp .ge off, 3)) (ht : (pc : Int) + off = (tgt : Int)) (kt : y ≤ x → ev_E G μ tgt lv st h Z) (kf : ¬ (y ≤ x) → ev_E G μ (pc + 3) lv st h Z) : ev_E G μ pc lv (.int y :: .int x :: st) h Z := by
  by_cases hc : y ≤ x
  · exact ev_pure (fun _ _ _ _ _ _ _ _ _ C _ _ _ _ _ ls _ _ hl k => lv_icmp_ge C.1 C.2.1 hd ht (fun _ => k ls hl) (fun z => absurd hc z)) (kt hc)
  · exact ev_pure (fun _ _ _ _ _ _ _ _ _ C _ _ _ _ _ ls _ _ hl k => lv_icmp_ge C.1 C.2.1 hd ht (fun z => absurd z hc) (fun _ => k ls hl)) (kf hc)
theorem ev_if_gt {G : gl_G} {μ : mt_M} {pc : Nat} {lv : List (Nat × Value)} {st : List Value} {h : hp_T} {Z : Option Value → hp_T → Prop} {x : Int32} {off : Int} {tgt : Nat} (hd : decode (mt_b μ) pc = .ok (.ifCond .gt off, 3)) (ht : (pc : Int) + off = (tgt : Int)) (kt : 0 < x → ev_E G μ tgt lv st h Z) (kf : ¬ (0 < x) → ev_E G μ (pc + 3) lv st h Z) : ev_E G μ pc lv (.int x :: st) h Z := by
  by_cases hc : 0 < x
  · exact ev_pure (fun _ _ _ _ _ _ _ _ _ C _ _ _ _ _ ls _ _ hl k => lv_if_gt C.1 C.2.1 hd ht (fun _ => k ls hl) (fun z => absurd hc z)) (kt hc)
  · exact ev_pure (fun _ _ _ _ _ _ _ _ _ C _ _ _ _ _ ls _ _ hl k => lv_if_gt C.1 C.2.1 hd ht (fun z => absurd z hc) (fun _ => k ls hl)) (kf hc)
theorem ev_icmp_gt {G : gl_G} {μ : mt_M} {pc : Nat} {lv : List (Nat × Value)} {st : List Value} {h : hp_T} {Z : Option Value → hp_T → Prop} {x y : Int32} {off : Int} {tgt : Nat} (hd : decode (mt_b μ) pc = .ok (.if_icmp .gt off, 3)) (ht : (pc : Int) + off = (tgt : Int)) (kt : y < x → ev_E G μ tgt lv st h Z) (kf : ¬ (y < x) → ev_E G μ (pc + 3) lv st h Z) : ev_E G μ pc lv (.int y :: .int x :: st) h Z := by
  by_cases hc : y < x
  · exact ev_pure (fun _ _ _ _ _ _ _ _ _ C _ _ _ _ _ ls _ _ hl k => lv_icmp_gt C.1 C.2.1 hd ht (fun _ => k ls hl) (fun z => absurd hc z)) (kt hc)
  · exact ev_pure (fun _ _ _ _ _ _ _ _ _ C _ _ _ _ _ ls _ _ hl k => lv_icmp_gt C.1 C.2.1 hd ht (fun z => absurd z hc) (fun _ => k ls hl)) (kf hc)
theorem ev_if_le {G : gl_G} {μ : mt_M} {pc : Nat} {lv : List (Nat × Value)} {st : List Value} {h : hp_T} {Z : Option Value → hp_T → Prop} {x : Int32} {off : Int} {tgt : Nat} (hd : decode (mt_b μ) pc = .ok (.ifCond .le off, 3)) (ht : (pc : Int) + off = (tgt : Int)) (kt : x ≤ 0 → ev_E G μ tgt lv st h Z) (kf : ¬ (x ≤ 0) → ev_E G μ (pc + 3) lv st h Z) : ev_E G μ pc lv (.int x :: st) h Z := by
  by_cases hc : x ≤ 0
  · exact ev_pure (fun _ _ _ _ _ _ _ _ _ C _ _ _ _ _ ls _ _ hl k => lv_if_le C.1 C.2.1 hd ht (fun _ => k ls hl) (fun z => absurd hc z)) (kt hc)
  · exact ev_pure (fun _ _ _ _ _ _ _ _ _ C _ _ _ _ _ ls _ _ hl k => lv_if_le C.1 C.2.1 hd ht (fun z => absurd z hc) (fun _ => k ls hl)) (kf hc)
theorem ev_icmp_le {G : gl_G} {μ : mt_M} {pc : Nat} {lv : List (Nat × Value)} {st : List Value} {h : hp_T} {Z : Option Value → hp_T → Prop} {x y : Int32} {off : Int} {tgt : Nat} (hd : decode (mt_b μ) pc = .ok (.if_icmp .le off, 3)) (ht : (pc : Int) + off = (tgt : Int)) (kt : x ≤ y → ev_E G μ tgt lv st h Z) (kf : ¬ (x ≤ y) → ev_E G μ (pc + 3) lv st h Z) : ev_E G μ pc lv (.int y :: .int x :: st) h Z := by
  by_cases hc : x ≤ y
  · exact ev_pure (fun _ _ _ _ _ _ _ _ _ C _ _ _ _ _ ls _ _ hl k => lv_icmp_le C.1 C.2.1 hd ht (fun _ => k ls hl) (fun z => absurd hc z)) (kt hc)
  · exact ev_pure (fun _ _ _ _ _ _ _ _ _ C _ _ _ _ _ ls _ _ hl k => lv_icmp_le C.1 C.2.1 hd ht (fun z => absurd z hc) (fun _ => k ls hl)) (kf hc)
theorem ev_tableOut {G : gl_G} {μ : mt_M} {pc : Nat} {lv : List (Nat × Value)} {st : List Value} {h : hp_T} {Z : Option Value → hp_T → Prop} {dflt lo hi : Int} {offs : Array Int} {len : Nat} {x : Int32} {tgt : Nat} (hd : decode (mt_b μ) pc = .ok (.tableswitch dflt lo hi offs, len)) (hx : x.toInt < lo ∨ hi < x.toInt) (ht : (pc : Int) + dflt = (tgt : Int)) (k : ev_E G μ tgt lv st h Z) : ev_E G μ pc lv (.int x :: st) h Z :=
  ev_pure (fun _ _ _ _ _ _ _ _ _ C _ _ _ _ _ ls _ _ hl k => lv_tableOut C.1 C.2.1 hd hx ht (k ls hl)) k
theorem ev_tableIn {G : gl_G} {μ : mt_M} {pc : Nat} {lv : List (Nat × Value)} {st : List Value} {h : hp_T} {Z : Option Value → hp_T → Prop} {dflt lo hi : Int} {offs : Array Int} {len : Nat} {x : Int32} {off : Int} {tgt : Nat} (hd : decode (mt_b μ) pc = .ok (.tableswitch dflt lo hi offs, len)) (h1 : ¬ x.toInt < lo) (h2 : ¬ hi < x.toInt) (ho : offs[(x.toInt - lo).toNat]? = some off) (ht : (pc : Int) + off = (tgt : Int)) (k : ev_E G μ tgt lv st h Z) : ev_E G μ pc lv (.int x :: st) h Z :=
  ev_pure (fun _ _ _ _ _ _ _ _ _ C _ _ _ _ _ ls _ _ hl k => lv_tableIn C.1 C.2.1 hd h1 h2 ho ht (k ls hl)) k
theorem ev_lookup {G : gl_G} {μ : mt_M} {pc : Nat} {lv : List (Nat × Value)} {st : List Value} {h : hp_T} {Z : Option Value → hp_T → Prop} {dflt : Int} {ps : Array (Int × Int)} {len : Nat} {x : Int32} {off : Int} {tgt : Nat} (hd : decode (mt_b μ) pc = .ok (.lookupswitch dflt ps, len)) (hp : (ps.toList.zip (ps.toList.drop 1)).all (fun (a, next) => a.1 < next.1) = true) (ho : Op.lookupswitch.offset ps.toList dflt x.toInt = off) (ht : (pc : Int) + off = (tgt : Int)) (k : ev_E G μ tgt lv st h Z) : ev_E G μ pc lv (.int x :: st) h Z :=
  ev_pure (fun _ _ _ _ _ _ _ _ _ C _ _ _ _ _ ls _ _ hl k => lv_lookup C.1 C.2.1 hd hp ho ht (k ls hl)) k
theorem ev_ldc {G : gl_G} {μ : mt_M} {pc : Nat} {lv : List (Nat × Value)} {st : List Value} {h : hp_T} {Z : Option Value → hp_T → Prop} {index : Nat} {v : Int32} (hw : Jvm.Cond.constant (mt_y μ).cls index v ∈ mt_w μ) (hd : decode (mt_b μ) pc = .ok (.ldc index, 2)) (k : ev_E G μ (pc + 2) lv (.int v :: st) h Z) : ev_E G μ pc lv st h Z :=
  ev_pure (fun _ _ _ _ _ _ _ _ _ C _ _ _ _ _ ls _ _ hl k => lv_ldc C.1 C.2.1 C.2.2.2.2.1 (C.2.2.2.2.2.1 _ hw) hd (k ls hl)) k
theorem ev_ldcw {G : gl_G} {μ : mt_M} {pc : Nat} {lv : List (Nat × Value)} {st : List Value} {h : hp_T} {Z : Option Value → hp_T → Prop} {index : Nat} {v : Int32} (hw : Jvm.Cond.constant (mt_y μ).cls index v ∈ mt_w μ) (hd : decode (mt_b μ) pc = .ok (.ldc_w index, 3)) (k : ev_E G μ (pc + 3) lv (.int v :: st) h Z) : ev_E G μ pc lv st h Z :=
  ev_pure (fun _ _ _ _ _ _ _ _ _ C _ _ _ _ _ ls _ _ hl k => lv_ldcw C.1 C.2.1 C.2.2.2.2.1 (C.2.2.2.2.2.1 _ hw) hd (k ls hl)) k
theorem ev_ldc2 {G : gl_G} {μ : mt_M} {pc : Nat} {lv : List (Nat × Value)} {st : List Value} {h : hp_T} {Z : Option Value → hp_T → Prop} {index : Nat} {v : Int64} (hw : Jvm.Cond.constantLong (mt_y μ).cls index v ∈ mt_w μ) (hd : decode (mt_b μ) pc = .ok (.ldc2_w index, 3)) (k : ev_E G μ (pc + 3) lv (.long v :: st) h Z) : ev_E G μ pc lv st h Z :=
  ev_pure (fun _ _ _ _ _ _ _ _ _ C _ _ _ _ _ ls _ _ hl k => lv_ldc2 C.1 C.2.1 C.2.2.2.2.1 (C.2.2.2.2.2.1 _ hw) hd (k ls hl)) k
