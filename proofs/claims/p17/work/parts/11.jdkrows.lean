section JDKROWS
variable {G : gl_G} {μ : mt_M} {pc : Nat} {lv : List (Nat × Value)} {rest : List Value} {h : hp_T} {Z : Option Value → hp_T → Prop} {index : Nat}
/-- a walk's cells and slots never pass its room: what is wanted there is nothing -/
theorem ev_pureR {pc2 : Nat} {lv2 : List (Nat × Value)} {st st2 : List Value}
    (hs : ∀ (p : Program) (e : Env) (R : Room) (s : State) (m : MethodId) (args : Array Value) (below : List Frame) (meth : Method) (c : Code), cx_ok G μ p R s m args meth c → ∀ (H : Heap) (locs : List Loc) (cells slots : Nat) (Q : State → Prop) (ls : Array Slot), hp_ok G h H → va_S (gl_A G) s.heap H locs → lv_has ls (mt_n μ) lv → cells ≤ R.cells → slots ≤ R.slots →
      (∀ ls2 : Array Slot, lv_has ls2 (mt_n μ) lv2 → W p (gl_l G) e R s m args below meth c H locs cells slots Q (F0 m pc2 ls2 st2)) → W p (gl_l G) e R s m args below meth c H locs cells slots Q (F0 m pc ls st))
    (k : ev_E G μ pc2 lv2 st2 h Z) : ev_E G μ pc lv st h Z := by
  obtain ⟨o, h', hZ, h1, h2, k⟩ := k
  exact ⟨o, h', hZ, h1, h2, fun p e R s m args below meth c C H locs cells slots ls hO hS hl hc hq => hs p e R s m args below meth c C H locs cells slots _ ls hO hS hl (by omega) (by omega) (fun ls2 hl2 => k p e R s m args below meth c C H locs cells slots ls2 hO hS hl2 hc hq)⟩
theorem ev_mmax {x y : Int32} (hlink : Cond.methodLink (mt_y μ).cls index Lib.Math.max.name ∈ mt_w μ) (hstat : Cond.static Lib.Math.max.name ∈ mt_w μ) (hini : Cond.initialized "java/lang/Math" ∈ mt_w μ) (hcode : Cond.code Lib.Math.max.name Lib.Math.max.code 2 (some .int) ∈ mt_w μ) (hf : 1 ≤ mt_f μ) (hlo : (rest.map fun v => v.category).sum + 13 ≤ mt_l μ) (hd : decode (mt_b μ) pc = .ok (.invokestatic index, 3)) (kk : ev_E G μ (pc + 3) lv (.int (if x < y then y else x) :: rest) h Z) : ev_E G μ pc lv (.int y :: .int x :: rest) h Z := by
  refine ev_pureR (fun p e R s m args below meth c X H locs cells slots Q ls hO hS hl hc hs k => ?_) kk
  obtain ⟨hx, hb, hml, hr, hown, hts, hlocks, hname, hK, hL, hbs, hRf, hRl, hG, hnmd, hns⟩ := X
  exact va_mmax hx hb (hml.trans hl.1.symm) hown (hts _ hlink) (hts _ hstat) (hts _ hini) (hts _ hcode) (by rw [hRf]; exact hf) (by rw [hRl]; exact hlo) hc hs hd (k ls hl)
theorem ev_mmin {x y : Int32} (hlink : Cond.methodLink (mt_y μ).cls index Lib.Math.min.name ∈ mt_w μ) (hstat : Cond.static Lib.Math.min.name ∈ mt_w μ) (hini : Cond.initialized "java/lang/Math" ∈ mt_w μ) (hcode : Cond.code Lib.Math.min.name Lib.Math.min.code 2 (some .int) ∈ mt_w μ) (hf : 1 ≤ mt_f μ) (hlo : (rest.map fun v => v.category).sum + 13 ≤ mt_l μ) (hd : decode (mt_b μ) pc = .ok (.invokestatic index, 3)) (kk : ev_E G μ (pc + 3) lv (.int (if y < x then y else x) :: rest) h Z) : ev_E G μ pc lv (.int y :: .int x :: rest) h Z := by
  refine ev_pureR (fun p e R s m args below meth c X H locs cells slots Q ls hO hS hl hc hs k => ?_) kk
  obtain ⟨hx, hb, hml, hr, hown, hts, hlocks, hname, hK, hL, hbs, hRf, hRl, hG, hnmd, hns⟩ := X
  exact va_mmin hx hb (hml.trans hl.1.symm) hown (hts _ hlink) (hts _ hstat) (hts _ hini) (hts _ hcode) (by rw [hRf]; exact hf) (by rw [hRl]; exact hlo) hc hs hd (k ls hl)
/-- System.arraycopy of ints from the one array's begin to the other's begin -/
theorem ev_copyi {a0 a n0 n1 n t0 : Nat} {cI : ClassId} {f g : Nat → Int32} (ht : (gl_t G)[t0]? = some (cI, .int)) (he0 : h.2.2 a0 = some (.inl (cI, n0, .inl f))) (he1 : h.2.2 a = some (.inl (cI, n1, .inl g))) (hn0 : n ≤ n0) (hn1 : n ≤ n1) (hn : n < 2 ^ 31)
    (hlink : Cond.methodLink (mt_y μ).cls index arraycopyName ∈ mt_w μ) (hnat : Cond.native arraycopyName ∈ mt_w μ) (hstat : Cond.static arraycopyName ∈ mt_w μ) (hini : Cond.initialized "java/lang/System" ∈ mt_w μ) (hf : 1 ≤ mt_f μ) (hlo : (rest.map fun v => v.category).sum + (nativeFrameWords "java/lang/System" "arraycopy" 5 + 11) ≤ mt_l μ) (hd : decode (mt_b μ) pc = .ok (.invokestatic index, 3))
    (kk : ev_E G μ (pc + 3) lv rest (hp_up h a (.inl (cI, n1, .inl (va_cpy f g 0 0 n)))) Z) : ev_E G μ pc lv (.int (nI n) :: .int 0 :: .ref a :: .int 0 :: .ref a0 :: rest) h Z := by
  refine ev_step (h2 := hp_up h a (.inl (cI, n1, .inl (va_cpy f g 0 0 n)))) (Nat.le_refl _) (Nat.le_refl _) (fun p e R s m args below meth c X H locs cells slots Q ls hO hS hl _ _ kk => ?_) kk
  obtain ⟨hx, hb, hml, hr, hown, hts, hlocks, hname, hK, hL, hbs, hRf, hRl, hG, hnmd, hns⟩ := X
  have c0 : (0 : Int32).toNatClampNeg = 0 := by decide
  have cn : (nI n).toNatClampNeg = n := nI_clamp hn
  intro T hT X
  have hc0 : H[a0]? = some (vp_cell cI (n0, .inl f)) := (hO.2 a0 _ he0).1
  have hc1 : H[a]? = some (vp_cell cI (n1, .inl g)) := (hO.2 a _ he1).1
  obtain ⟨-, k0, hk0, cm0, hkk0⟩ := (hK.2 t0 _ ht).1 n0 (fun j => .int (f j))
  obtain ⟨-, k1, hk1, cm1, hkk1⟩ := (hK.2 t0 _ ht).1 n1 (fun j => .int (g j))
  have z0 : (0 : Int32).toInt = 0 := by decide
  have zn : (nI n).toInt = (n : Int) := nI_toInt hn
  obtain ⟨vm', X', step⟩ := X.arraycopy hx hown (hts _ hlink) (hts _ hnat) (hts _ hstat) (hts _ hini) (src := a0) (dst := a) (cs := vp_cell cI (n0, .inl f)) (cd := vp_cell cI (n1, .inl g)) (srcPos := 0) (destPos := 0) (n := nI n) (by rw [hT]; exact hc0) (by rw [hT]; exact hc1)
    (fun _ h => by cases h) (fun _ h => by cases h) (fun h => by cases h) (fun h => by cases h) hk0 hk1 hkk0 hkk1 (by simp [refKind]) (by decide) (by decide) (nI_pos hn)
    (by rw [z0, zn]; show ¬ _ > ((arrV cI n0 (fun j => .int (f j))).slots.size : Int); rw [arrV_size]; omega)
    (by rw [z0, zn]; show ¬ _ > ((arrV cI n1 (fun j => .int (g j))).slots.size : Int); rw [arrV_size]; omega)
    (fun vm₁ _ i hi => by
      rw [cn] at hi
      have e9 : (vp_cell cI (n0, .inl f)).slots.getD ((0 : Int32).toNatClampNeg + i) .null = .int (f ((0 : Int32).toNatClampNeg + i)) := by
        show (arrV cI n0 (fun j => .int (f j))).slots.getD _ _ = _
        rw [Array.getD_eq_getD_getElem?, arrV_read _ _ (by rw [c0]; omega)]
        rfl
      refine ⟨?_, ?_⟩
      · rw [e9]; rfl
      · rw [e9]
        exact trivial)
    (g := F0 m pc ls (.int (nI n) :: .int 0 :: .ref a :: .int 0 :: .ref a0 :: rest)) rfl (by rw [hml]; exact hl.1) (rest := rest) rfl (by rw [hb]; exact hd) (by rw [hRf]; exact hf) (by rw [hRl]; show 2 * 0 + _ + _ ≤ _; omega)
  have e1 : copied (vp_cell cI (n0, .inl f)) (vp_cell cI (n1, .inl g)) 0 0 (nI n) = vp_cell cI (n1, .inl (va_cpy f g (0 : Int32).toNatClampNeg (0 : Int32).toNatClampNeg (nI n).toNatClampNeg)) := va_copied (fun z => .int z) cI cI f g (by rw [c0, cn]; omega)
  rw [c0, cn] at e1
  rw [e1] at X' step
  have hla : a < H.size := (Array.getElem?_eq_some_iff.mp hc1).1
  have hheap : ((T.setVm vm').setCell a (vp_cell cI (n1, .inl (va_cpy f g 0 0 n)))).heap = H.setIfInBounds a (vp_cell cI (n1, .inl (va_cpy f g 0 0 n))) := by rw [← hT]; rfl
  have oq : ∀ q : Nat, q ≠ a → (H.setIfInBounds a (vp_cell cI (n1, .inl (va_cpy f g 0 0 n))))[q]? = H[q]? := fun q hq => by simp [Array.getElem?_setIfInBounds, Ne.symm hq]
  have hba := (hO.2 a _ he1).2
  have fin : ∀ L : List Loc, (∀ q ∈ L, q.base = a) → W p (gl_l G) e R s m args below meth c (H.setIfInBounds a (vp_cell cI (n1, .inl (va_cpy f g 0 0 n)))) (locs ++ L) cells slots Q (F0 m (pc + 3) ls rest) := fun L hL => by
    refine W.cs (show cells = cells + (h.1 - h.1) by omega) (show slots = slots + (h.2.1 - h.2.1) by omega) ?_
    refine kk _ _ ls (hO.set hba (show (H.setIfInBounds a _)[a]? = some _ by simp [Array.getElem?_setIfInBounds, hla]) (by simp) oq) ⟨by simp; exact hS.1, fun q g1 g2 => ?_, fun q hq => ?_⟩ hl
    · rw [oq q (fun e => g2 (by rw [e]; exact hba))]
      exact hS.2.1 q g1 g2
    · rcases List.mem_append.mp hq with z | z
      · exact hS.2.2 q z
      · show gl_b G ≤ q.base
        rw [hL q z]
        exact hba
  obtain ⟨t, a1, b1⟩ := fin _ (fun q hq => by
    obtain ⟨z, -, hz⟩ := List.mem_map.mp hq
    rw [← hz]) _ hheap X'
  exact ⟨t, step t a1, b1⟩
end JDKROWS
