section ARR
variable {G : gl_G} {μ : mt_M} {pc : Nat} {lv : List (Nat × Value)} {st : List Value} {h : hp_T} {Z : Option Value → hp_T → Prop}
/-- the array class of a type of numbers, by the globals -/
theorem gl_arr {s : State} {D : va_G} {cl : List vw_C} {tys : List (ClassId × FieldType)} (hK : va_K D cl tys s) {t0 : Nat} {cA cB : ClassId} {atype : ArrayType} (ht : tys[t0]? = some (cA, newarray.typeOf atype)) (hB : s.vm.findClass ("[" ++ (newarray.typeOf atype).toString) = some cB) : cB = cA := by
  have h2 := (hK.2 t0 _ ht).2
  have h3 : s.vm.findClass ("[" ++ (newarray.typeOf atype).toString) = some cA := by cases atype <;> exact h2
  exact Option.some.inj (hB.symm.trans h3)
theorem ev_newa {atype : ArrayType} {t0 N : Nat} {cA : ClassId} {n : Int32} {a0 : vp_A} (ha : ∀ cA : ClassId, vp_cell cA a0 = arrV cA N (fun _ => defaultValue (newarray.typeOf atype))) (hw : Cond.arrayClass (newarray.typeOf atype) ∈ mt_w μ) (ht : (gl_t G)[t0]? = some (cA, newarray.typeOf atype)) (hn : ¬ n < 0) (hN : n.toNatClampNeg = N) (hbytes : N * componentBytes (newarray.typeOf atype) ≤ 536870912)
    (hd : decode (mt_b μ) pc = .ok (.newarray atype, 2)) (kk : ev_E G μ (pc + 2) lv (.ref h.1 :: st) (hp_add h N (.inl (cA, a0))) Z) : ev_E G μ pc lv (.int n :: st) h Z := by
  refine ev_step (h2 := hp_add h N (.inl (cA, a0))) (Nat.le_succ _) (Nat.le_add_right _ _) (fun p e R s m args below meth c X H locs cells slots Q ls hO hS hl hc1 hs1 kk => ?_) kk
  obtain ⟨hx, hb, hml, hr, hown, hts, hlocks, hname, hK, hL, hbs, -, -, -⟩ := X
  have z1 : (hp_add h N (.inl (cA, a0))).1 - h.1 = 1 := show h.1 + 1 - h.1 = 1 by omega
  have z2 : (hp_add h N (.inl (cA, a0))).2.1 - h.2.1 = N := show h.2.1 + N - h.2.1 = N by omega
  rw [z1] at hc1 kk
  rw [z2] at hs1 kk
  have hsz := hO.1.1
  have hSz := hS.1
  refine va_newaK hx hb (hts _ hw) rfl hd rfl hn hN hbytes hc1 hs1 hO.1.1 (fun H1 cB e1 zz o1 _ hNm => ?_)
  have hAB := gl_arr hK ht hNm
  subst hAB
  refine kk H1 locs ls (hO.push (by omega) ?_ (by omega) (fun q hq => o1 q (by omega))) ⟨by omega, fun x a1 a2 => (o1 x (by omega)).trans (hS.2.1 x a1 a2), hS.2.2⟩ hl
  show H1[h.1]? = some (vp_cell cB a0)
  rw [ha]
  exact e1
theorem ev_alen {t0 a : Nat} {cA : ClassId} {x : vp_A} {ty : FieldType} (ht : (gl_t G)[t0]? = some (cA, ty)) (he : h.2.2 a = some (.inl (cA, x))) (hd : decode (mt_b μ) pc = .ok (.arraylength, 1)) (kk : ev_E G μ (pc + 1) lv (.int (nI x.1) :: st) h Z) : ev_E G μ pc lv (.ref a :: st) h Z :=
  ev_pure (fun _ _ _ _ _ _ _ _ _ X _ _ _ _ _ ls hO _ hl k => va_alen X.1 X.2.1 X.2.2.2.2.2.2.2.2.1 (hO.one he) 0 t0 rfl ht rfl hd (k ls hl)) kk
theorem ev_iald {t0 a n : Nat} {cA : ClassId} {f : Nat → Int32} {i : Int32} (ht : (gl_t G)[t0]? = some (cA, .int)) (he : h.2.2 a = some (.inl (cA, n, .inl f))) (hi : vp_in i n) (hd : decode (mt_b μ) pc = .ok (.iaload, 1)) (kk : ev_E G μ (pc + 1) lv (.int (f i.toNatClampNeg) :: st) h Z) : ev_E G μ pc lv (.int i :: .ref a :: st) h Z :=
  ev_pure (fun _ _ _ _ _ _ _ _ _ X _ _ _ _ _ ls hO _ hl k => va_iald X.1 X.2.1 X.2.2.2.2.2.2.2.2.1 (hO.one he) 0 t0 rfl ht hi hd (k ls hl)) kk
theorem ev_zald {t0 a n : Nat} {cA : ClassId} {f : Nat → Int32} {i : Int32} (ht : (gl_t G)[t0]? = some (cA, .boolean)) (he : h.2.2 a = some (.inl (cA, n, .inl f))) (hi : vp_in i n) (hd : decode (mt_b μ) pc = .ok (.baload, 1)) (kk : ev_E G μ (pc + 1) lv (.int (f i.toNatClampNeg) :: st) h Z) : ev_E G μ pc lv (.int i :: .ref a :: st) h Z :=
  ev_pure (fun _ _ _ _ _ _ _ _ _ X _ _ _ _ _ ls hO _ hl k => va_zald X.1 X.2.1 X.2.2.2.2.2.2.2.2.1 (hO.one he) 0 t0 rfl ht hi hd (k ls hl)) kk
theorem ev_lald {t0 a n : Nat} {cA : ClassId} {f : Nat → Int64} {i : Int32} (ht : (gl_t G)[t0]? = some (cA, .long)) (he : h.2.2 a = some (.inl (cA, n, .inr (.inl f)))) (hi : vp_in i n) (hd : decode (mt_b μ) pc = .ok (.laload, 1)) (kk : ev_E G μ (pc + 1) lv (.long (f i.toNatClampNeg) :: st) h Z) : ev_E G μ pc lv (.int i :: .ref a :: st) h Z :=
  ev_pure (fun _ _ _ _ _ _ _ _ _ X _ _ _ _ _ ls hO _ hl k => va_lald X.1 X.2.1 X.2.2.2.2.2.2.2.2.1 (hO.one he) 0 t0 rfl ht hi hd (k ls hl)) kk
/-- a store, by the array that it leaves -/
theorem ev_iast {t0 a n : Nat} {cA : ClassId} {f : Nat → Int32} {i x : Int32} (ht : (gl_t G)[t0]? = some (cA, .int)) (he : h.2.2 a = some (.inl (cA, n, .inl f))) (hi : vp_in i n) (hd : decode (mt_b μ) pc = .ok (.iastore, 1)) (kk : ev_E G μ (pc + 1) lv st (hp_up h a (.inl (cA, n, .inl (upd f i.toNatClampNeg x)))) Z) : ev_E G μ pc lv (.int x :: .int i :: .ref a :: st) h Z := by
  refine ev_step (h2 := hp_up h a (.inl (cA, n, .inl (upd f i.toNatClampNeg x)))) (Nat.le_refl _) (Nat.le_refl _) (fun p e R s m args below meth c X H locs cells slots Q ls hO hS hl _ _ kk => ?_) kk
  obtain ⟨hx, hb, hml, hr, hown, hts, hlocks, hname, hK, hL, hbs, -, -, -⟩ := X
  obtain ⟨hat, hba⟩ := hO.2 a _ he
  refine W.iast hx hb hat ((hK.2 t0 _ ht).1 n (fun j => .int (f j))) (fun q => by cases q) (by show ¬ (i < 0 ∨ (arrV _ _ _).slots.size ≤ _); rw [arrV_size]; exact hi) rfl rfl hd fun H1 e z oq => ?_
  refine W.cs (show cells = cells + (h.1 - h.1) by omega) (show slots = slots + (h.2.1 - h.2.1) by omega) ?_
  refine kk H1 _ ls (hO.set hba ?_ z oq) (hS.put z oq hba) hl
  show H1[a]? = some (vp_cell _ _)
  rw [e]
  rw [vp_cell_i, vp_cell_i, arrV_store]
  congr 2
  funext q
  by_cases hq : q = i.toNatClampNeg
  · subst hq
    simp [updV, upd]
  · simp [updV, upd, hq]
theorem ev_zast {t0 a n : Nat} {cA : ClassId} {f : Nat → Int32} {i x : Int32} (ht : (gl_t G)[t0]? = some (cA, .boolean)) (he : h.2.2 a = some (.inl (cA, n, .inl f))) (hi : vp_in i n) (hd : decode (mt_b μ) pc = .ok (.bastore, 1)) (kk : ev_E G μ (pc + 1) lv st (hp_up h a (.inl (cA, n, .inl (upd f i.toNatClampNeg (vp_nar .boolean x))))) Z) : ev_E G μ pc lv (.int x :: .int i :: .ref a :: st) h Z := by
  refine ev_step (h2 := hp_up h a (.inl (cA, n, .inl (upd f i.toNatClampNeg (vp_nar .boolean x))))) (Nat.le_refl _) (Nat.le_refl _) (fun p e R s m args below meth c X H locs cells slots Q ls hO hS hl _ _ kk => ?_) kk
  obtain ⟨hx, hb, hml, hr, hown, hts, hlocks, hname, hK, hL, hbs, -, -, -⟩ := X
  obtain ⟨hat, hba⟩ := hO.2 a _ he
  refine W.zast hx hb hat ((hK.2 t0 _ ht).1 n (fun j => .int (f j))) (fun q => by cases q) (by show ¬ (i < 0 ∨ (arrV _ _ _).slots.size ≤ _); rw [arrV_size]; exact hi) rfl rfl hd fun H1 e z oq => ?_
  refine W.cs (show cells = cells + (h.1 - h.1) by omega) (show slots = slots + (h.2.1 - h.2.1) by omega) ?_
  refine kk H1 _ ls (hO.set hba ?_ z oq) (hS.put z oq hba) hl
  show H1[a]? = some (vp_cell _ _)
  rw [e]
  rw [vp_cell_i, vp_cell_i, arrV_store]
  congr 2
  funext q
  by_cases hq : q = i.toNatClampNeg
  · subst hq
    simp [updV, upd, vp_nar]
    try rfl
  · simp [updV, upd, hq]
end ARR
