/-! the law's helpers, over any state, weak -/
section HELP
variable {G : gl_G} {μ : mt_M} {pc : Nat} {lv : List (Nat × Value)} {st : List Value} {h : hp_T} {Z : Option Value → hp_T → Prop}
def updL (f : Nat → Int64) (k : Nat) (x : Int64) : Nat → Int64 := fun j => if j = k then x else f j
theorem ev_last {t0 a n : Nat} {cA : ClassId} {f : Nat → Int64} {i : Int32} {x : Int64} (ht : (gl_t G)[t0]? = some (cA, .long)) (he : h.2.2 a = some (.inl (cA, n, .inr (.inl f)))) (hi : vp_in i n) (hd : decode (mt_b μ) pc = .ok (.lastore, 1)) (kk : ev_E G μ (pc + 1) lv st (hp_up h a (.inl (cA, n, .inr (.inl (updL f i.toNatClampNeg x))))) Z) : ev_E G μ pc lv (.long x :: .int i :: .ref a :: st) h Z := by
  refine ev_step (h2 := hp_up h a (.inl (cA, n, .inr (.inl (updL f i.toNatClampNeg x))))) (Nat.le_refl _) (Nat.le_refl _) (fun p e R s m args below meth c X H locs cells slots Q ls hO hS hl _ _ kk => ?_) kk
  obtain ⟨hx, hb, hml, hr, hown, hts, hlocks, hname, hK, hL, hbs, -, -, -⟩ := X
  obtain ⟨hat, hba⟩ := hO.2 a _ he
  refine W.last hx hb hat ((hK.2 t0 _ ht).1 n (fun j => .long (f j))) (fun q => by cases q) (by show ¬ (i < 0 ∨ (arrV _ _ _).slots.size ≤ _); rw [arrV_size]; exact hi) rfl rfl hd fun H1 e z oq => ?_
  refine W.cs (show cells = cells + (h.1 - h.1) by omega) (show slots = slots + (h.2.1 - h.2.1) by omega) ?_
  refine kk H1 _ ls (hO.set hba ?_ z oq) (hS.put z oq hba) hl
  show H1[a]? = some (vp_cell _ _)
  rw [e]
  rw [vp_cell_l, vp_cell_l, arrV_store]
  congr 2
  funext q
  by_cases hq : q = i.toNatClampNeg
  · subst hq
    simp [updV, updL]
  · simp [updV, updL, hq]
end HELP
section HELP2
variable {G : gl_G} {cI cZ cJ : ClassId} {s170 : Nat} {X : Nat} {B T : List Int32} {F : Flds} {bd : Nat}
/-- behind a helper: class and answer's cell, the reference's cells as they were -/
def hQ (cI cJ : ClassId) (X : Nat) (h : hp_T) (σ : rwT) (B T : List Int32) (F : Flds) (bd : Nat) : hp_T → Prop := fun h' => ∃ σ', (clS cI X h' σ' B T F bd ∧ obS X h') ∧ oC cJ X h' ∧ (∀ q, X + 70 ≤ q → q ≤ X + 97 → h'.2.2 q = h.2.2 q) ∧ bR h σ h' σ' ∧ ∀ τ ∈ eR, (σ' τ).2.2 = (σ τ).2.2
abbrev hR (cI cJ : ClassId) (X : Nat) (h : hp_T) (σ : rwT) (B T : List Int32) (F : Flds) (bd : Nat) : Option Value → hp_T → Prop := cr (fun v h' => (∃ q : Int32, v = .int q) ∧ hQ cI cJ X h σ B T F bd h')
theorem hQ_more {h : hp_T} {σ : rwT} (C : clS cI X h σ B T F bd) (O : obS X h) (o : oC cJ X h) : hQ cI cJ X h σ B T F bd (hp_more h 1 6) :=
  ⟨σ, ⟨clS_eq C (Nat.le_succ _) (fun _ _ _ => rfl), obS_eq O C.1.1.2.2 (fun _ _ _ => rfl)⟩, o, fun _ _ _ => rfl, ⟨by show h.1 + 1 + _ ≤ _; omega, by show h.2.1 + 6 + _ ≤ _; omega⟩, fun _ _ => rfl⟩
theorem hQ_up {h h1 : hp_T} {σ : rwT} {f : Nat → Int64} (C : clS cI X h σ B T F bd) {ρs : List Nat} (p : clA cI X h σ ρs B T F bd h1) (hd : ∀ τ ∈ eR, τ ∉ ρs) : hQ cI cJ X h σ B T F bd (hp_up h1 (X + 98) (.inl (cJ, 1, .inr (.inl f)))) := by
  obtain ⟨σ', ⟨C', O'⟩, k, fr⟩ := p
  have hX := C'.1.1.2.2
  have hq : ∀ q, (q ≤ X + 69 ∨ X + 99 ≤ q) → q < h1.1 → (hp_up h1 (X + 98) (.inl (cJ, 1, .inr (.inl f)))).2.2 q = h1.2.2 q := fun q q1 _ => hp_up_ne (by omega)
  exact ⟨σ', ⟨clS_eq C' (Nat.le_refl _) hq, obS_eq O' hX hq⟩, ⟨f, hp_up_self _ _ _⟩, fun q q1 q2 => by rw [hp_up_ne (by omega)]; exact kR_mid C.1 k mA_mid q1 (by omega), bR_of k ⟨rfl, rfl⟩, fun τ hτ => fr τ (hd τ hτ)⟩
theorem w_Law_addresses {sa sb tm tz sm sz : Nat} (hNm : gl_nm G) (hT : (gl_t G)[0]? = some (cI, .int)) (hJ : (gl_t G)[2]? = some (cJ, .long)) (hE : gl_ex G s170) (hG : gSg G sa sb) (hD : gDt G tm tz sm sz) {h : hp_T} {σ : rwT} (C : clS cI X h σ B T F bd) (O : obS X h) (o : oC cJ X h) (f : Int32) : ct_E G m_Law_addresses [.ref X, .int f, .ref (X + 98)] h (hR cI cJ X h σ B T F bd) := by
  have m5 : (5 : Nat) ∈ txs := by decide
  obtain ⟨S, H, C3, C4, -⟩ := id C
  refine ct_ofH (hs := hs_Law_addresses) (ws' := tb_all) rfl rfl (Nat.le_of_ble_eq_true rfl) ?_
  by_cases hf : hdT (nI F.length) f 1 = -1
  · refine ev_aload_n d_Law_addresses_0 rfl rfl ?_
    refine ev_iconst (v := 0) d_Law_addresses_1 (by decide) ?_
    refine ev_aload_n d_Law_addresses_2 rfl rfl ?_
    refine ev_iload_n d_Law_addresses_3 rfl rfl ?_
    refine ev_Vt (ci := 0) (a0 := 0) (a1 := 9) (hpc := 12) (ix := 13) [.int f] [.int 0, .ref (X + 98)] ca_Law_addresses_7 d_Law_addresses_4 rfl C4 rfl (Nat.le_of_ble_eq_true rfl) (x_addresses hE C4 H.1 (tS_tx S m5) f (by rw [hd_cnt C]; exact hf)) List.mem_cons_self (by decide) (by decide) (by decide) (List.mem_cons_of_mem _ tw_490) (fun U args hL => hE.2.1 U args hL _ (List.mem_of_getElem? (i := 7) rfl)) ?_
    refine ev_astore_n d_Law_addresses_12 rfl (by decide) ?_
    refine ev_iconst (v := 1) d_Law_addresses_13 (by decide) ?_
    refine ev_iret d_Law_addresses_14 rfl ?_
    exact ⟨_, rfl, ⟨_, rfl⟩, hQ_more C O o⟩
  · refine ev_aload_n d_Law_addresses_0 rfl rfl ?_
    refine ev_iconst (v := 0) d_Law_addresses_1 (by decide) ?_
    refine ev_aload_n d_Law_addresses_2 rfl rfl ?_
    refine ev_iload_n d_Law_addresses_3 rfl rfl ?_
    refine ev_Vr (ci := 0) [.int f] [.int 0, .ref (X + 98)] ca_Law_addresses_7 d_Law_addresses_4 rfl (C4) rfl (Nat.le_of_ble_eq_true rfl) (w_addresses hT hG C O f hf) (fun v h1 z => ?_)
    obtain ⟨⟨q, rfl⟩, p⟩ := z
    obtain ⟨f0, ho⟩ : oC cJ X h1 := by
      obtain ⟨σ', -, k, -⟩ := id p
      exact mid_oC o (fun q q1 q2 => kR_mid C.1 k mA_mid q1 q2)
    refine ev_i2l d_Law_addresses_7 ?_
    refine ev_last hJ ho (pk_in 0 1 (by decide)) d_Law_addresses_8 ?_
    refine ev_goto (tgt := 15) d_Law_addresses_9 (by decide) ?_
    refine ev_iconst (v := 0) d_Law_addresses_15 (by decide) ?_
    refine ev_iret d_Law_addresses_16 rfl ?_
    exact ⟨_, rfl, ⟨_, rfl⟩, hQ_up C p (by decide)⟩
end HELP2
