/-! Constructors: an object at a, the cells that it makes behind it, one behind the other -/
section CTOR
/-- K cells and N slots more, the object and what it made as blk has it, nothing else changed -/
def nb (h h' : hp_T) (a K N : Nat) (blk : Nat → va_E) : Prop := h'.1 = h.1 + K ∧ h'.2.1 = h.2.1 + N ∧ (∀ k, k ≤ K → h'.2.2 (a + k) = some (blk k)) ∧ ∀ q, q < a → h'.2.2 q = h.2.2 q
/-- within a constructor -/
def ci_I (h0 h : hp_T) (a cp : Nat) (pf : List Value) (K N : Nat) (B : Nat → va_E) : Prop := a + 1 = h0.1 ∧ h.1 = h0.1 + K ∧ h.2.1 = h0.2.1 + N ∧ h.2.2 a = some (.inr (cp, pf)) ∧ (∀ k, k < K → h.2.2 (a + 1 + k) = some (B k)) ∧ ∀ q, q < a → h.2.2 q = h0.2.2 q
def bj (K : Nat) (B C : Nat → va_E) : Nat → va_E := fun k => if k < K then B k else C (k - K)
def b0 : Nat → va_E := fun _ => .inr (0, [])
def bo (o : va_E) (B : Nat → va_E) : Nat → va_E := fun k => if k = 0 then o else B (k - 1)
theorem ci_start {h : hp_T} {a cp : Nat} {pf : List Value} (h1 : a + 1 = h.1) (h2 : h.2.2 a = some (.inr (cp, pf))) : ci_I h h a cp pf 0 0 b0 := ⟨h1, rfl, rfl, h2, fun _ hk => absurd hk (Nat.not_lt_zero _), fun _ _ => rfl⟩
theorem ci_end {h0 h : hp_T} {a cp K N : Nat} {pf : List Value} {B : Nat → va_E} (I : ci_I h0 h a cp pf K N B) : nb h0 h a K N (bo (.inr (cp, pf)) B) := by
  obtain ⟨h1, h2, h3, h4, h5, h6⟩ := I
  refine ⟨h2, h3, fun k hk => ?_, h6⟩
  cases k with
  | zero => exact h4
  | succ k =>
    have := h5 k (by omega)
    rw [show a + 1 + k = a + (k + 1) by omega] at this
    rw [this]
    rfl
theorem ci_put {h0 h : hp_T} {a cp K N n : Nat} {pf : List Value} {B : Nat → va_E} {v : Value} (I : ci_I h0 h a cp pf K N B) : ci_I h0 (hp_up h a (.inr (cp, pf.set n v))) a cp (pf.set n v) K N B := by
  obtain ⟨h1, h2, h3, h4, h5, h6⟩ := I
  exact ⟨h1, h2, h3, hp_up_self _ _ _, fun k hk => by rw [hp_up_ne (by omega)]; exact h5 k hk, fun q hq => by rw [hp_up_ne (by omega)]; exact h6 q hq⟩
theorem ci_child {h0 h h2 : hp_T} {a cp ci K N Kc Nc n : Nat} {pf fs : List Value} {B blk : Nat → va_E} (I : ci_I h0 h a cp pf K N B) (C : nb (hp_add h fs.length (.inr (ci, fs))) h2 h.1 Kc Nc blk) : h2.2.2 a = some (.inr (cp, pf)) ∧ h.1 = a + 1 + K ∧ ci_I h0 (hp_up h2 a (.inr (cp, pf.set n (.ref h.1)))) a cp (pf.set n (.ref h.1)) (K + (Kc + 1)) (N + fs.length + Nc) (bj K B blk) := by
  obtain ⟨h1, i2, i3, i4, i5, i6⟩ := I
  obtain ⟨c1, c2, c3, c4⟩ := C
  have c1' : h2.1 = h.1 + 1 + Kc := c1
  have c2' : h2.2.1 = h.2.1 + fs.length + Nc := c2
  have low : ∀ q, q < h.1 → h2.2.2 q = h.2.2 q := fun q hq => by
    rw [c4 q hq]
    exact hp_add_ne (by omega)
  refine ⟨by rw [low a (by omega)]; exact i4, by omega, h1, ?_, ?_, hp_up_self _ _ _, fun k hk => ?_, fun q hq => ?_⟩
  · show h2.1 = _; omega
  · show h2.2.1 = _; omega
  · rw [hp_up_ne (by omega)]
    unfold bj
    by_cases hkK : k < K
    · rw [if_pos hkK, low _ (by omega)]
      exact i5 k hkK
    · rw [if_neg hkK, show a + 1 + k = h.1 + (k - K) by omega]
      exact c3 _ (by omega)
  · rw [hp_up_ne (by omega), low q (by omega)]
    exact i6 q hq
variable {G : gl_G} {μ ν : mt_M} {pc : Nat} {lv : List (Nat × Value)} {Z : Option Value → hp_T → Prop} {iN iI iP : Nat}
/-- this.f = new C() -/
theorem ev_child {h0 h : hp_T} {a cp ci K N Kc Nc f : Nat} {pf fs : List Value} {B : Nat → va_E} {blk : Nat → Nat → va_E} {t : FieldType} (hd0 : decode (mt_b μ) pc = .ok (.aload_n 0, 1)) (hd1 : decode (mt_b μ) (pc + 1) = .ok (.new iN, 3)) (hd2 : decode (mt_b μ) (pc + 1 + 3) = .ok (.dup, 1)) (hd3 : decode (mt_b μ) (pc + 1 + 3 + 1) = .ok (.invokespecial iI, 3)) (hd4 : decode (mt_b μ) (pc + 1 + 3 + 1 + 3) = .ok (.putfield iP, 3))
    (FN : fa_new μ iN ci fs) (FI : ca_I μ ν iI 0) (FP : fa_put μ iP cp f t) (hn : ∀ x, narrow t (.ref x) = .ref x) (hfit : ∀ x, fits t (.ref x) = true) (hl : lq_at lv 0 = some (.ref a)) (C : ∀ (h : hp_T) (a : Nat), a + 1 = h.1 → h.2.2 a = some (.inr (ci, fs)) → ct_E G ν [.ref a] h (cn fun h' => nb h h' a Kc Nc (blk a))) (I : ci_I h0 h a cp pf K N B) (hf : f < pf.length)
    (kk : ∀ h2, ci_I h0 h2 a cp (pf.set f (.ref (a + 1 + K))) (K + (Kc + 1)) (N + fs.length + Nc) (bj K B (blk (a + 1 + K))) → ev_E G μ (pc + 1 + 3 + 1 + 3 + 3) lv [] h2 Z) : ev_E G μ pc lv [] h Z := by
  refine ev_aload_n hd0 rfl hl ?_
  refine ev_new FN hd1 ?_
  refine ev_dup hd2 rfl ?_
  refine ev_In [] [.ref h.1, .ref a] FI hd3 rfl (Nat.le_of_ble_eq_true rfl) (C (hp_add h fs.length (.inr (ci, fs))) h.1 rfl (hp_add_self _ _ _)) (fun h2 z => ?_)
  obtain ⟨g1, g2, g3⟩ := ci_child (n := f) I z
  refine ev_put FP hd4 g1 hf (hn _) (hfit _) ?_
  rw [g2] at g3 ⊢
  exact kk _ g3
/-- this.f = new C(this.w) -/
theorem ev_child1 {h0 h : hp_T} {a cp ci K N Kc Nc f w fw : Nat} {iW : Nat} {pf fs : List Value} {B : Nat → va_E} {blk : Nat → Nat → va_E} {t : FieldType} (hd0 : decode (mt_b μ) pc = .ok (.aload_n 0, 1)) (hd1 : decode (mt_b μ) (pc + 1) = .ok (.new iN, 3)) (hd2 : decode (mt_b μ) (pc + 1 + 3) = .ok (.dup, 1)) (hd5 : decode (mt_b μ) (pc + 1 + 3 + 1) = .ok (.aload_n 0, 1)) (hd6 : decode (mt_b μ) (pc + 1 + 3 + 1 + 1) = .ok (.getfield iW, 3)) (hd3 : decode (mt_b μ) (pc + 1 + 3 + 1 + 1 + 3) = .ok (.invokespecial iI, 3)) (hd4 : decode (mt_b μ) (pc + 1 + 3 + 1 + 1 + 3 + 3) = .ok (.putfield iP, 3))
    (FN : fa_new μ iN ci fs) (FW : fa_at μ iW cp fw) (hw : pf[fw]? = some (.ref w)) (FI : ca_I μ ν iI 1) (FP : fa_put μ iP cp f t) (hn : ∀ x, narrow t (.ref x) = .ref x) (hfit : ∀ x, fits t (.ref x) = true) (hl : lq_at lv 0 = some (.ref a)) (C : ∀ (h : hp_T) (a : Nat), a + 1 = h.1 → h.2.2 a = some (.inr (ci, fs)) → ct_E G ν [.ref a, .ref w] h (cn fun h' => nb h h' a Kc Nc (blk a))) (I : ci_I h0 h a cp pf K N B) (hf : f < pf.length)
    (kk : ∀ h2, ci_I h0 h2 a cp (pf.set f (.ref (a + 1 + K))) (K + (Kc + 1)) (N + fs.length + Nc) (bj K B (blk (a + 1 + K))) → ev_E G μ (pc + 1 + 3 + 1 + 1 + 3 + 3 + 3) lv [] h2 Z) : ev_E G μ pc lv [] h Z := by
  refine ev_aload_n hd0 rfl hl ?_
  refine ev_new FN hd1 ?_
  refine ev_dup hd2 rfl ?_
  refine ev_aload_n hd5 rfl hl ?_
  have hlt : a < h.1 := by have h1 := I.1; have h2 := I.2.1; omega
  refine ev_get FW hd6 (show (hp_add h fs.length (.inr (ci, fs))).2.2 a = _ by rw [hp_add_ne (by omega)]; exact I.2.2.2.1) hw ?_
  refine ev_In [.ref w] [.ref h.1, .ref a] FI hd3 rfl (Nat.le_of_ble_eq_true rfl) (C (hp_add h fs.length (.inr (ci, fs))) h.1 rfl (hp_add_self _ _ _)) (fun h2 z => ?_)
  obtain ⟨g1, g2, g3⟩ := ci_child (n := f) I z
  refine ev_put FP hd4 g1 hf (hn _) (hfit _) ?_
  rw [g2] at g3 ⊢
  exact kk _ g3
end CTOR
section CLASS
variable {G : gl_G} {cI : ClassId}
/-- a new Row; a new Texts -/
def rw_b (cI : ClassId) (a : Nat) : Nat → va_E := fun k => if k = 0 then .inr (1, [.ref (a + 1), .int 0]) else .inl (cI, 16, .inl (fun _ => 0))
def tx_b (cI : ClassId) (a : Nat) : Nat → va_E := fun k => if k = 0 then .inr (3, [.ref (a + 1), .ref (a + 3)]) else if k = 1 then .inr (1, [.ref (a + 2), .int 0]) else if k = 3 then .inr (1, [.ref (a + 4), .int 1]) else .inl (cI, 16, .inl (fun _ => 0))
theorem c_Row_init (hT : (gl_t G)[0]? = some (cI, .int)) (h : hp_T) (a : Nat) (ha : a + 1 = h.1) (hA : h.2.2 a = some (.inr (1, [.null, .int 0]))) : ct_E G m_Row_init [.ref a] h (cn fun h' => nb h h' a 1 16 (rw_b cI a)) := by
  refine ct_of (ws' := tb_all) rfl rfl (Nat.le_of_ble_eq_true rfl) ?_
  refine ev_aload_n d_Row_init_0 rfl rfl ?_
  refine ev_objInit (List.mem_cons_of_mem _ tw_36) (List.mem_cons_of_mem _ tw_29) (List.mem_cons_of_mem _ tw_30) (by decide) (by decide) d_Row_init_1 ?_
  refine ev_aload_n d_Row_init_4 rfl rfl ?_
  refine ev_bipush (v := 16) d_Row_init_5 (by decide) ?_
  refine ev_newa (atype := .int) (t0 := 0) (N := 16) (cA := cI) (a0 := (16, .inl (fun _ => 0))) (fun _ => rfl) (List.mem_cons_of_mem _ tw_44) hT (by decide) (by decide) (by decide) d_Row_init_7 ?_
  refine ev_put (fp_Row_11 rfl rfl) d_Row_init_9 (show (hp_add h 16 _).2.2 a = _ by rw [hp_add_ne (by omega)]; exact hA) (Nat.le_of_ble_eq_true rfl) rfl rfl ?_
  refine ev_aload_n d_Row_init_12 rfl rfl ?_
  refine ev_iconst (v := 0) d_Row_init_13 (by decide) ?_
  refine ev_put (fp_Row_15 rfl rfl) d_Row_init_14 (hp_up_self _ _ _) (Nat.le_of_ble_eq_true rfl) rfl rfl ?_
  refine ev_vret d_Row_init_17 rfl ?_
  refine ⟨rfl, rfl, rfl, fun k hk => ?_, fun q hq => ?_⟩
  · rcases Nat.le_one_iff_eq_zero_or_eq_one.mp hk with rfl | rfl
    · show (hp_up _ a _).2.2 a = _
      rw [hp_up_self, ← ha]
      rfl
    · show (hp_up _ a _).2.2 (a + 1) = _
      rw [hp_up_ne (by omega), hp_up_ne (by omega), ha, hp_add_self]
      rfl
  · rw [hp_up_ne (by omega), hp_up_ne (by omega), hp_add_ne (by omega)]
end CLASS
