/-! objects, arrays and statics below our cells; ints of any size -/
theorem i32_s {i m : Int32} (h : ¬ m ≤ i) : (i + 1).toInt = i.toInt + 1 := by
  have h1 : i.toInt < m.toInt := Int32.lt_iff_toInt_lt.mp (Int32.not_le.mp h)
  have h2 := Int32.toInt_lt m
  have h3 := Int32.le_toInt i
  rw [Int32.toInt_add]
  have e : (1 : Int32).toInt = 1 := by decide
  rw [e]
  apply Int.bmod_eq_of_le <;> omega
theorem i32_s3 {i m : Int32} (h : ¬ m ≤ i) (h2 : ¬ m ≤ i + 2) (h3 : ¬ i + 2 < 0) : (i + 2 + 1).toInt = i.toInt + 3 := by
  have e1 := i32_s h
  have hl := Int32.le_toInt i
  have hu := Int32.toInt_lt i
  have e2 : (i + 2).toInt = i.toInt + 2 := by
    have hb : (i + 2).toInt = (i.toInt + 2).bmod (2 ^ 32) := by
      rw [Int32.toInt_add]; rfl
    rcases Int.lt_or_le (i.toInt + 2) (2 ^ 31) with q | q
    · rw [hb]; apply Int.bmod_eq_of_le <;> omega
    · exfalso
      have h4 : 0 ≤ (i + 2).toInt := by
        have := Int32.not_lt.mp h3
        exact Int32.le_iff_toInt_le.mp this
      rw [hb] at h4
      obtain ⟨x, hx⟩ : ∃ x : Int, i.toInt + 2 = x + (2 ^ 32 : Nat) := ⟨i.toInt + 2 - 2 ^ 32, by omega⟩
      rw [hx, Int.add_bmod_right, Int.bmod_eq_of_le (by omega) (by omega)] at h4
      omega
  rw [i32_s h2, e2]
  omega
theorem i32_s2 {i m : Int32} (h : ¬ m ≤ i) (h2 : ¬ m ≤ i + 1) : (i + 2).toInt = i.toInt + 2 := by
  have e := i32_s h
  have e2 := i32_s h2
  have e3 : i + 2 = i + 1 + 1 := by rw [Int32.add_assoc]; rfl
  rw [e3, e2, e]
  omega
theorem a11 (i : Int32) : i + 1 + 1 = i + 2 := by rw [Int32.add_assoc]; rfl
theorem i32_lt {i m : Int32} (h : ¬ m ≤ i) : i.toInt < m.toInt := Int32.lt_iff_toInt_lt.mp (Int32.not_le.mp h)
section BELOW
variable {G : gl_G} {μ ν : mt_M} {pc : Nat} {lv : List (Nat × Value)} {st rest As : List Value} {h : hp_T} {Z Z1 : Option Value → hp_T → Prop} {index n : Nat}
theorem ev_callVb {b : Nat} (F : ca_V μ ν index n) (hd : decode (mt_b μ) pc = .ok (.invokevirtual index, 3)) (hR0 : ∀ U : State, gl_L G U → va_O (mt_y ν).cls b (gl_A G) U U.heap) (hn : As.length = n) (hroom : (rest.map fun v => v.category).sum ≤ 8) (hM : ct_E G ν (.ref b :: As) h Z1) (kk : ∀ o h1, Z1 o h1 → ev_E G μ (pc + 3) lv (o.toList ++ rest) h1 Z) : ev_E G μ pc lv (As.reverse ++ .ref b :: rest) h Z := by
  obtain ⟨o1, h1, z1, le1, le2, M⟩ := hM
  obtain ⟨hgood, ⟨ws', hw⟩, hdd, hR⟩ := F
  refine ev_step (h2 := h1) le1 le2 (fun p e R s m args below meth c X H locs cells slots Q ls hO hS hl hc1 hs1 k => ?_) (kk o1 h1 z1)
  have X' := X
  obtain ⟨hx, hb, hml, hr, hown, hts, hlocks, hname, hK, hL, hbs, hRf, hRl, hG, hnmd, hns⟩ := X
  rw [← hRf, ← hRl] at hR
  obtain ⟨cell, q1, q2, q3, -⟩ := (hR0 s hL).kept hS.2.1
  refine wr_call (va_runV (As := As) (rest := rest) (Ts := mt_w μ) ⟨hx, hb, hml, hown, hts⟩ (M hG) (cwV n hts hgood hw rfl rfl ⟨rfl, hdd⟩ hR) ⟨ct_blind hG _ _, ⟨cell, q1, q2, q3⟩, ct_here X' hO hS (.ref b :: As)⟩ rfl hn hl.1 rfl (lv_room hroom) hd ⟨hc1, hs1⟩) hS (fun H1 locs1 hO1 hS1 => ?_)
  exact k H1 locs1 ls hO1 hS1 hl
theorem ev_Bv {b : Nat} {v : Value} (As rest : List Value) (F : ca_V μ ν index n) (hd : decode (mt_b μ) pc = .ok (.invokevirtual index, 3)) (hR0 : ∀ U : State, gl_L G U → va_O (mt_y ν).cls b (gl_A G) U U.heap) (hn : As.length = n) (hroom : (rest.map fun v => v.category).sum ≤ 8) (hM : ct_E G ν (.ref b :: As) h (cv v h)) (kk : ev_E G μ (pc + 3) lv (v :: rest) h Z) : ev_E G μ pc lv (As.reverse ++ .ref b :: rest) h Z :=
  ev_callVb F hd hR0 hn hroom hM (fun o h1 z => by obtain ⟨rfl, rfl⟩ := z; exact kk)
theorem ev_Br {b : Nat} {P : Value → hp_T → Prop} (As rest : List Value) (F : ca_V μ ν index n) (hd : decode (mt_b μ) pc = .ok (.invokevirtual index, 3)) (hR0 : ∀ U : State, gl_L G U → va_O (mt_y ν).cls b (gl_A G) U U.heap) (hn : As.length = n) (hroom : (rest.map fun v => v.category).sum ≤ 8) (hM : ct_E G ν (.ref b :: As) h (cr P)) (kk : ∀ v h1, P v h1 → ev_E G μ (pc + 3) lv (v :: rest) h1 Z) : ev_E G μ pc lv (As.reverse ++ .ref b :: rest) h Z :=
  ev_callVb F hd hR0 hn hroom hM (fun o h1 z => by obtain ⟨v, rfl, z⟩ := z; exact kk v h1 z)
theorem ev_getb {q : Nat} {o nm d : String} {v : Value} (hE : ∀ U : State, gl_L G U → va_OF o nm d v q (gl_A G) U U.heap) (hw : Cond.fieldLink (mt_y μ).cls index o nm d ∈ mt_w μ) (hd : decode (mt_b μ) pc = .ok (.getfield index, 3)) (kk : ev_E G μ (pc + 3) lv (v :: st) h Z) : ev_E G μ pc lv (.ref q :: st) h Z :=
  ev_pure (fun _ _ _ _ _ _ _ _ _ X _ _ _ _ _ ls _ hS hl k => vk_getf X.1 X.2.1 (hE _ X.2.2.2.2.2.2.2.2.2.1) hS X.2.2.2.2.1 (X.2.2.2.2.2.1 _ hw) (fun _ z => z) hd (k ls hl)) kk
theorem ev_gets {C nm d : String} {v : Value} (hZ : ∀ U : State, gl_L G U → va_Z C nm d v (gl_A G) U U.heap) (hw : Cond.fieldLink (mt_y μ).cls index C nm d ∈ mt_w μ) (hd : decode (mt_b μ) pc = .ok (.getstatic index, 3)) (kk : ev_E G μ (pc + 3) lv (v :: st) h Z) : ev_E G μ pc lv st h Z :=
  ev_pure (fun _ _ _ _ _ _ _ _ _ X _ _ _ _ _ ls _ hS hl k => va_gets X.1 X.2.1 (hZ _ X.2.2.2.2.2.2.2.2.2.1) hS X.2.2.2.2.1 (X.2.2.2.2.2.1 _ hw) (fun _ z => z) hd (k ls hl)) kk
theorem ev_blen {ty : FieldType} {t N : Nat} {f : Nat → Value} (hT : ∀ U : State, gl_L G U → va_T ty t N f (gl_A G) U U.heap) (hd : decode (mt_b μ) pc = .ok (.arraylength, 1)) (kk : ev_E G μ (pc + 1) lv (.int (nI N) :: st) h Z) : ev_E G μ pc lv (.ref t :: st) h Z :=
  ev_pure (fun _ _ _ _ _ _ _ _ _ X _ _ _ _ _ ls _ hS hl k => va_tlen X.1 X.2.1 (hT _ X.2.2.2.2.2.2.2.2.2.1) hS rfl hd (k ls hl)) kk
theorem ev_bbald {t N : Nat} {f : Nat → Value} {i : Int32} (hT : ∀ U : State, gl_L G U → va_T .byte t N f (gl_A G) U U.heap) (hi : vp_in i N) (hd : decode (mt_b μ) pc = .ok (.baload, 1)) (kk : ev_E G μ (pc + 1) lv (f i.toNatClampNeg :: st) h Z) : ev_E G μ pc lv (.int i :: .ref t :: st) h Z :=
  ev_pure (fun _ _ _ _ _ _ _ _ _ X _ _ _ _ _ ls _ hS hl k => va_tb X.1 X.2.1 (hT _ X.2.2.2.2.2.2.2.2.2.1) hS hi rfl hd (k ls hl)) kk
theorem ev_biald {t N : Nat} {f : Nat → Value} {i : Int32} (hT : ∀ U : State, gl_L G U → va_T .int t N f (gl_A G) U U.heap) (hi : vp_in i N) (hd : decode (mt_b μ) pc = .ok (.iaload, 1)) (kk : ev_E G μ (pc + 1) lv (f i.toNatClampNeg :: st) h Z) : ev_E G μ pc lv (.int i :: .ref t :: st) h Z :=
  ev_pure (fun _ _ _ _ _ _ _ _ _ X _ _ _ _ _ ls _ hS hl k => va_ti X.1 X.2.1 (hT _ X.2.2.2.2.2.2.2.2.2.1) hS hi rfl hd (k ls hl)) kk
end BELOW
section ROWS3
variable {G : gl_G} {cI : ClassId} {h : hp_T} {X : Nat} {σ : rwT}
theorem w_radd (hT : (gl_t G)[0]? = some (cI, .int)) (S : tS cI X h σ) {ρ : Nat} (hρ : ρ ∈ rws) (x : Int32) : ct_E G m_Row_add [.ref (X + ρ), .int x] h (cn (tP cI X h σ [ρ] (fun σ' => (σ' ρ).2.2 = addR (σ ρ).2.2 x))) := ct_to (w_add hT S.1 hρ x) (by
  rintro o h' ⟨rfl, c', cap', q1, q2⟩
  exact ⟨rfl, _, tS_go S q1 q2, q2, fun τ hτ => by rw [rwU_ne (fun z => hτ (by simp [z]))], by show (rwU σ _ _ _).2.2 = _; rw [rwU_at]⟩)
theorem w_rcut (S : tS cI X h σ) {ρ : Nat} (hρ : ρ ∈ rws) (i : Int32) (hi : ρ ∈ bnds → i ≠ 0 := by first | (intro z; exact absurd z (by decide)) | decide) : ct_E G m_Row_cutTo [.ref (X + ρ), .int i] h (cn (tP cI X h σ [ρ] (fun σ' => (σ' ρ).2.2 = cutR (σ ρ).2.2 i))) := ct_to (w_cutTo S.1 hρ i hi) (by
  rintro o h' ⟨rfl, q1, q2⟩
  exact ⟨rfl, _, tS_go S q1 q2, q2, fun τ hτ => by rw [rwU_ne (fun z => hτ (by simp [z]))], by show (rwU σ _ _ _).2.2 = _; rw [rwU_at]⟩)
end ROWS3
