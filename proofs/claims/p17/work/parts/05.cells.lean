/-- a step that may change the cells -/
theorem ev_step {G : gl_G} {μ : mt_M} {pc pc2 : Nat} {lv lv2 : List (Nat × Value)} {st st2 : List Value} {h h2 : hp_T} {Z : Option Value → hp_T → Prop} (z1 : h.1 ≤ h2.1) (z2 : h.2.1 ≤ h2.2.1)
    (hs : ∀ (p : Program) (e : Env) (R : Room) (s : State) (m : MethodId) (args : Array Value) (below : List Frame) (meth : Method) (c : Code), cx_ok G μ p R s m args meth c → ∀ (H : Heap) (locs : List Loc) (cells slots : Nat) (Q : State → Prop) (ls : Array Slot), hp_ok G h H → va_S (gl_A G) s.heap H locs → lv_has ls (mt_n μ) lv → cells + (h2.1 - h.1) ≤ R.cells → slots + (h2.2.1 - h.2.1) ≤ R.slots →
      (∀ (H2 : Heap) (locs2 : List Loc) (ls2 : Array Slot), hp_ok G h2 H2 → va_S (gl_A G) s.heap H2 locs2 → lv_has ls2 (mt_n μ) lv2 → W p (gl_l G) e R s m args below meth c H2 locs2 (cells + (h2.1 - h.1)) (slots + (h2.2.1 - h.2.1)) Q (F0 m pc2 ls2 st2)) → W p (gl_l G) e R s m args below meth c H locs cells slots Q (F0 m pc ls st))
    (k : ev_E G μ pc2 lv2 st2 h2 Z) : ev_E G μ pc lv st h Z := by
  obtain ⟨o, h', hZ, h1, h3, k⟩ := k
  refine ⟨o, h', hZ, Nat.le_trans z1 h1, Nat.le_trans z2 h3, fun p e R s m args below meth c C H locs cells slots ls hO hS hl hc hq => ?_⟩
  refine hs p e R s m args below meth c C H locs cells slots _ ls hO hS hl (by omega) (by omega) (fun H2 locs2 ls2 hO2 hS2 hl2 => ?_)
  exact k p e R s m args below meth c C H2 locs2 _ _ ls2 hO2 hS2 hl2 (by omega) (by omega)
section RET
variable {G : gl_G} {μ : mt_M} {pc : Nat} {lv : List (Nat × Value)} {st : List Value} {h : hp_T} {Z : Option Value → hp_T → Prop}
theorem ev_iret {v : Int32} (hd : decode (mt_b μ) pc = .ok (.ireturn, 1)) (hr : mt_r μ = some .int) (hz : Z (some (.int v)) h) : ev_E G μ pc lv [.int v] h Z := by
  refine ⟨_, h, hz, Nat.le_refl _, Nat.le_refl _, fun p e R s m args below meth c C H locs cells slots ls hO hS hl hc hq => ?_⟩
  refine W.widen (k := R.cells) (n := R.slots) (by omega) (by omega) ?_
  exact W.iret C.1 C.2.1 (C.2.2.2.1.trans hr) (fun t ht _ => ⟨rfl, by rw [ht]; exact hO, hS.F ht⟩) hS.2.2 hd C.2.2.2.2.2.2.1
theorem ev_zret {v : Int32} (hd : decode (mt_b μ) pc = .ok (.ireturn, 1)) (hr : mt_r μ = some .boolean) (hn : narrow .boolean (.int v) = .int v) (hz : Z (some (.int v)) h) : ev_E G μ pc lv [.int v] h Z := by
  refine ⟨_, h, hz, Nat.le_refl _, Nat.le_refl _, fun p e R s m args below meth c C H locs cells slots ls hO hS hl hc hq => ?_⟩
  refine W.widen (k := R.cells) (n := R.slots) (by omega) (by omega) ?_
  exact W.zret C.1 C.2.1 (C.2.2.2.1.trans hr) hn (fun t ht _ => ⟨rfl, by rw [ht]; exact hO, hS.F ht⟩) hS.2.2 hd C.2.2.2.2.2.2.1
theorem ev_vret (hd : decode (mt_b μ) pc = .ok (.return_, 1)) (hr : mt_r μ = none) (hz : Z none h) : ev_E G μ pc lv [] h Z := by
  refine ⟨_, h, hz, Nat.le_refl _, Nat.le_refl _, fun p e R s m args below meth c C H locs cells slots ls hO hS hl hc hq => ?_⟩
  refine W.widen (k := R.cells) (n := R.slots) (by omega) (by omega) ?_
  exact W.vret C.1 C.2.1 (C.2.2.2.1.trans hr) (fun t ht _ => ⟨rfl, by rw [ht]; exact hO, hS.F ht⟩) hS.2.2 hd C.2.2.2.2.2.2.1
theorem ev_lret {v : Int64} (hd : decode (mt_b μ) pc = .ok (.lreturn, 1)) (hr : mt_r μ = some .long) (hz : Z (some (.long v)) h) : ev_E G μ pc lv [.long v] h Z := by
  refine ⟨_, h, hz, Nat.le_refl _, Nat.le_refl _, fun p e R s m args below meth c C H locs cells slots ls hO hS hl hc hq => ?_⟩
  refine W.widen (k := R.cells) (n := R.slots) (by omega) (by omega) ?_
  exact W.lret C.1 C.2.1 (C.2.2.2.1.trans hr) (fun t ht _ => ⟨rfl, by rw [ht]; exact hO, hS.F ht⟩) hS.2.2 hd C.2.2.2.2.2.2.1
theorem ev_aret {a : Nat} {rt : FieldType} (hd : decode (mt_b μ) pc = .ok (.areturn, 1)) (hr : mt_r μ = some rt) (hrt : (∃ n, rt = .object n) ∨ ∃ t, rt = .array t) (hz : Z (some (.ref a)) h) : ev_E G μ pc lv [.ref a] h Z := by
  refine ⟨_, h, hz, Nat.le_refl _, Nat.le_refl _, fun p e R s m args below meth c C H locs cells slots ls hO hS hl hc hq => ?_⟩
  refine W.widen (k := R.cells) (n := R.slots) (by omega) (by omega) ?_
  exact W.aret C.1 C.2.1 (C.2.2.2.1.trans hr) hrt (Or.inr ⟨a, rfl⟩) (fun t ht _ => ⟨rfl, by rw [ht]; exact hO, hS.F ht⟩) hS.2.2 hd C.2.2.2.2.2.2.1
end RET
section FLD
variable {G : gl_G} {μ : mt_M} {pc : Nat} {lv : List (Nat × Value)} {st : List Value} {h : hp_T} {Z : Option Value → hp_T → Prop}
/-- which field an instruction speaks of: class ci's field k -/
def fa_at (μ : mt_M) (index ci k : Nat) : Prop := ∃ (C : String) (T : u_T) (N : Nat) (ty : Nat → FieldType), vwCl[ci]? = some (C, T, N) ∧ k < N ∧ (∀ w ∈ u_ws C T N, w ∈ mt_w μ) ∧ Cond.fieldLink (mt_y μ).cls index (T k).1 (T k).2.1 (T k).2.2.1 ∈ mt_w μ ∧
  (∀ k, k < N → parseFieldDescriptor (T k).2.2.1 = some (ty k)) ∧ (∀ a, a < N → ∀ b, b < N → a ≠ b → (T a).2.1 ≠ (T b).2.1)
theorem ev_get {index ci n a : Nat} {fs : List Value} {v : Value} (F : fa_at μ index ci n) (hd : decode (mt_b μ) pc = .ok (.getfield index, 3)) (he : h.2.2 a = some (.inr (ci, fs))) (hv : fs[n]? = some v) (kk : ev_E G μ (pc + 3) lv (v :: st) h Z) : ev_E G μ pc lv (.ref a :: st) h Z := by
  obtain ⟨C, T, N, ty, hc, hk, hin, hlink, -, -⟩ := F
  exact ev_pure (fun _ _ _ _ _ _ _ _ _ X _ _ _ _ _ ls hO _ hl k => va_get X.1 X.2.1 X.2.2.2.2.2.1 hin X.2.2.2.2.1 X.2.2.2.2.2.2.2.2.1 (hO.one he) 0 rfl hc n hk (X.2.2.2.2.2.1 _ hlink) (fun _ z => z) hv hd (k ls hl)) kk
/-- a field that isn't final: its type ty -/
def fa_put (μ : mt_M) (index ci k : Nat) (t : FieldType) : Prop := ∃ (C : String) (T : u_T) (N : Nat) (ty : Nat → FieldType), vwCl[ci]? = some (C, T, N) ∧ k < N ∧ (∀ w ∈ u_ws C T N, w ∈ mt_w μ) ∧ Cond.fieldLink (mt_y μ).cls index (T k).1 (T k).2.1 (T k).2.2.1 ∈ mt_w μ ∧
  (∀ k, k < N → parseFieldDescriptor (T k).2.2.1 = some (ty k)) ∧ (∀ a, a < N → ∀ b, b < N → a ≠ b → (T a).2.1 ≠ (T b).2.1) ∧ ty k = t ∧ ((T k).2.2.2 = false ∨ ((T k).2.2.2 = true ∧ (mt_y μ).name = "<init>" ∧ (T k).1 = (mt_y μ).cls))
theorem ev_put {index ci n a : Nat} {fs : List Value} {v : Value} {t : FieldType} (F : fa_put μ index ci n t) (hd : decode (mt_b μ) pc = .ok (.putfield index, 3)) (he : h.2.2 a = some (.inr (ci, fs))) (hl0 : n < fs.length) (hn : narrow t v = v) (hfit : fits t v = true) (kk : ev_E G μ (pc + 3) lv st (hp_up h a (.inr (ci, fs.set n v))) Z) : ev_E G μ pc lv (v :: .ref a :: st) h Z := by
  obtain ⟨C, T, N, ty, hc, hk, hin, hlink, hty, hnm, ht, hfin⟩ := F
  subst ht
  refine ev_step (h2 := hp_up h a (.inr (ci, fs.set n v))) (Nat.le_refl _) (Nat.le_refl _) (fun p e R s m args below meth c X H locs cells slots Q ls hO hS hl _ _ kk => ?_) kk
  obtain ⟨hx, hb, hml, hr, hown, hts, hlocks, hname, hK, hL, hbs, -, -, -⟩ := X
  have hap := va_apart (own := (mt_y μ).cls) hts hin ty hty hnm hK hc
  obtain ⟨⟨r, h1, cell, q1, q2, q3, q4⟩, hba⟩ := hO.2 a _ he
  have hr' : r = (C, T, N) := Option.some.inj (h1.symm.trans hc)
  subst hr'
  obtain ⟨hSl, hfc, kC, hkC, hkind⟩ := hK.1 ci _ hc
  obtain ⟨cf, kf, fi, f, hi, hsl⟩ := hSl n hk
  have hlay := hts _ (hin _ (u_in_lay hk))
  unfold u_lay at hlay
  have hst := (u_facts hfc hkC (u_lays hts hin hk) hi).1
  have last : ∀ (H' : Heap) (loc : Loc), loc.base = a → H'[a]? = some (cell.setSlot f.slot v) → H'.size = H.size → (∀ q, q ≠ a → H'[q]? = H[q]?) → W p (gl_l G) e R s m args below meth c H' (locs ++ [loc]) cells slots Q (F0 m (pc + 3) ls st) := by
    intro H' loc hloc e1 e2 e3
    obtain ⟨lb, li⟩ := loc
    cases hloc
    rw [hsl] at e1
    refine W.cs (show cells = cells + (h.1 - h.1) by omega) (show slots = slots + (h.2.1 - h.2.1) by omega) ?_
    exact kk H' _ ls (hO.set hba ⟨_, hc, t_OB.to (V := updV (vp_V fs) n v) ⟨_, e1, q2, q3, t_set q4 hap hk v⟩ (fun j _ => vp_updV_set hl0 v j)⟩ e2 e3) (hS.put e2 e3 hba) hl
  rcases hfin with hfin | ⟨hfin, hnm1, hcls⟩
  · rw [if_neg (by rw [hfin]; decide)] at hlay
    have h6 := u_store hfc hkC hkind hlay hi (hty n hk) hn hfit
    exact W.putK hx hb (f := f) ⟨hown, hts _ hlink, ⟨_, _, _, hi⟩, hst⟩ (by rw [q2]; exact h6) q1 q3 (by rw [hsl]; exact k2_hasslot (q4 n hk)) rfl rfl hd fun H' e1 e2 e3 => last H' _ rfl e1 e2 e3
  · rw [if_pos hfin] at hlay
    have hcf : m.cls = cf := by
      obtain ⟨_, _, c', _, _, _, -, -, hf', -, -, -, hown2, -⟩ := Cond.laysFinal_spec hlay
      have e1 : c' = cf := by have := hi.symm.trans hf'; simp at this; exact this.1.symm
      rw [hcls] at hown2
      rw [← e1]; exact Option.some.inj (hown.symm.trans hown2)
    have h6 := u_fits hfc hkC hkind (Or.inr hlay) hi (hty n hk) hn hfit
    exact W.putFinK hx hb hown (hts _ hlink) hi hst hcf (hname.trans hnm1) (by rw [q2]; exact h6) q1 q3 (by rw [hsl]; exact k2_hasslot (q4 n hk)) rfl rfl hd fun H' e1 e2 e3 => last H' _ rfl e1 e2 e3
/-- a new object -/
def fa_new (μ : mt_M) (index ci : Nat) (fs : List Value) : Prop := ∃ (C : String) (T : u_T) (N : Nat) (ty : Nat → FieldType), vwCl[ci]? = some (C, T, N) ∧ N = fs.length ∧ (∀ w ∈ u_ws C T N, w ∈ mt_w μ) ∧ Cond.classLink (mt_y μ).cls index C ∈ mt_w μ ∧ Cond.instantiable C N ∈ mt_w μ ∧ Cond.initialized C ∈ mt_w μ ∧
  (∀ k, k < N → parseFieldDescriptor (T k).2.2.1 = some (ty k)) ∧ (∀ j, j < N → defaultValue (ty j) = vp_V fs j)
theorem ev_new {index ci : Nat} {fs : List Value} (F : fa_new μ index ci fs) (hd : decode (mt_b μ) pc = .ok (.new index, 3)) (kk : ev_E G μ (pc + 3) lv (.ref h.1 :: st) (hp_add h fs.length (.inr (ci, fs))) Z) : ev_E G μ pc lv st h Z := by
  obtain ⟨C, T, N, ty, hc, hN, hin, hcl, hinst, hini, hty, hfs⟩ := F
  subst hN
  refine ev_step (h2 := hp_add h fs.length (.inr (ci, fs))) (Nat.le_succ _) (Nat.le_add_right _ _) (fun p e R s m args below meth c X H locs cells slots Q ls hO hS hl hc1 hs1 kk => ?_) kk
  obtain ⟨hx, hb, hml, hr, hown, hts, hlocks, hname, hK, hL, hbs, -, -, -⟩ := X
  have hKn := hK.1 ci _ hc
  have z1 : (hp_add h fs.length (.inr (ci, fs))).1 - h.1 = 1 := show h.1 + 1 - h.1 = 1 by omega
  have z2 : (hp_add h fs.length (.inr (ci, fs))).2.1 - h.2.1 = fs.length := show h.2.1 + fs.length - h.2.1 = fs.length by omega
  rw [z1] at hc1 kk
  rw [z2] at hs1 kk
  have hsz := hO.1.1
  have hSz := hS.1
  refine W.newcK hx hb hown (hts _ hcl) (hts _ hinst) (hts _ hini) rfl hd hc1 hs1 hKn.2.1 hO.1.1 (fun H1 kC hkC e1 zz o1 => ?_)
  exact kk H1 locs ls (hO.push (by omega) ⟨_, hc, (u_born ty hts hin hKn hkC e1 hty).to hfs⟩ (by omega) (fun q hq => o1 q (by omega))) ⟨by omega, fun x a1 a2 => (o1 x (by omega)).trans (hS.2.1 x a1 a2), hS.2.2⟩ hl
end FLD
