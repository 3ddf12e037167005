/-! the class: its calls on the tape and the head -/
/-- B ready, T on the tape, the fields F, bd bad lines -/
def clS (cI : ClassId) (X : Nat) (h : hp_T) (σ : rwT) (B T : List Int32) (F : Flds) (bd : Nat) : Prop := tS cI X h σ ∧ hS X h σ F false bd ∧ (fK F).length ≤ 1501 ∧ h.2.2 X = some (ml_o X) ∧ (∃ f5 : Nat → Int32, h.2.2 (X + 1) = some (.inl (cI, 5, .inl f5)) ∧ ∀ j, j < 20 → by8 (f5 (j / 4)) (nI (j % 4)) = B.getD j 0) ∧ (∀ ρ ∈ rws, (σ ρ).1 ≠ X + 1) ∧ (σ 2).2.2 = T ∧ T.length ≤ 1500
/-- what these calls may change besides the rows -/
abbrev mO (X : Nat) : List Nat := [X + 4, X + 1]
def clP (cI : ClassId) (X : Nat) (h : hp_T) (σ : rwT) (B T : List Int32) (F : Flds) (bd : Nat) : hp_T → Prop := fun h' => ∃ σ', clS cI X h' σ' B T F bd ∧ kR (mO X) X h σ h' σ' ∧ ∀ τ, τ ∉ [2, 6, 8] → (σ' τ).2.2 = (σ τ).2.2
theorem kR_sub {O O' : List Nat} {X : Nat} {h h' : hp_T} {σ σ' : rwT} (r : kR O X h σ h' σ') (hs : ∀ q ∈ O, q ∈ O') : kR O' X h σ h' σ' := ⟨r.1, r.2.1, r.2.2.1, r.2.2.2.1, fun q q1 q2 q3 q4 => r.2.2.2.2.1 q q1 (fun z => q2 (hs q z)) q3 q4, r.2.2.2.2.2⟩
/-- the array of the ready bytes stands where no row's does -/
theorem kR_arr {O : List Nat} {X : Nat} {h h' : hp_T} {σ σ' : rwT} (r : kR O X h σ h' σ') (h1 : ∀ ρ ∈ rws, (σ ρ).1 ≠ X + 1) (hO : X + 1 ∉ O) (hX : X + 99 ≤ h.1) : h'.2.2 (X + 1) = h.2.2 (X + 1) ∧ ∀ ρ ∈ rws, (σ' ρ).1 ≠ X + 1 := by
  refine ⟨r.2.2.2.2.1 (X + 1) (by omega) hO (nrow (by decide)) (fun ρ hρ z => h1 ρ hρ z.symm), fun ρ hρ => ?_⟩
  rcases r.2.2.2.2.2 ρ hρ with e | e
  · rw [e]; exact h1 ρ hρ
  · omega
theorem tS_arr {cI : ClassId} {X : Nat} {h : hp_T} {σ : rwT} {e : va_E} (S : tS cI X h σ) (h1 : ∀ ρ ∈ rws, (σ ρ).1 ≠ X + 1) : tS cI X (hp_up h (X + 1) e) σ := by
  refine ⟨⟨fun ρ hρ => ?_, S.1.2.1, S.1.2.2⟩, fun t ht => ?_⟩
  · obtain ⟨⟨g1, f, g2, g3⟩, g4, g5, g6⟩ := S.1.1 ρ hρ
    have hlt := rws_lt ρ hρ
    exact ⟨⟨by rw [hp_up_ne (by omega)]; exact g1, f, by rw [hp_up_ne (h1 ρ hρ)]; exact g2, g3⟩, g4, g5, g6⟩
  · have : t ≠ 1 := fun z => by subst z; revert ht; decide
    rw [hp_up_ne (by omega)]
    exact S.2 t ht
/-- what the lines keep is no longer than they are -/
theorem rdS_len : ∀ (n : Nat) (l : List Int32) (F : Flds) (b : Nat) (g : Bool), (g = true → F ≠ []) → (fK (rdS n l F b g).1).length ≤ (fK F).length + l.length
  | 0, _, _, _, _, _ => Nat.le_add_right _ _
  | n + 1, l, F, b, g, hg => by
    by_cases hn : l = []
    · rw [rdS, if_pos hn]; exact Nat.le_add_right _ _
    · rw [rdS_tk hn]
      have hb := tk_bd (l := l.take (eL l)) (b := b) hg
      have hel := eL_le l
      have hcl := cnt_le nNL l
      have hlen : 0 < l.length := List.length_pos_iff.mpr hn
      rw [List.length_take] at hb
      split
      · have ih := rdS_len n (l.drop (cnt nNL l + 1)) (tkL (l.take (eL l)) F g b).1.1 (tkL (l.take (eL l)) F g b).1.2.2 (tkL (l.take (eL l)) F g b).1.2.1 hb.2.2
        rw [List.length_drop] at ih
        omega
      · show (fK (tkL (l.take (eL l)) F g b).1.1).length ≤ _
        omega
theorem l_rdS_len (T : List Int32) : (fK (rdS T.length T [] 0 false).1).length ≤ T.length := by
  have := rdS_len T.length T [] 0 false (fun z => by cases z)
  simpa [fK] using this
section MAIL2
variable {G : gl_G} {cI : ClassId} {h : hp_T} {X : Nat} {σ : rwT} {B T : List Int32} {F : Flds} {bd : Nat}
theorem w_bad (C : clS cI X h σ B T F bd) : ct_E G m_Mail_bad [.ref X] h (cv (.int (nI bd)) h) := by
  obtain ⟨S, H, -, C4, -⟩ := C
  refine ct_of (ws' := tb_all) rfl rfl (Nat.le_of_ble_eq_true rfl) ?_
  refine ev_aload_n d_Mail_bad_0 rfl rfl ?_
  refine ev_get (fa_Mail_23 rfl rfl) d_Mail_bad_1 C4 rfl ?_
  refine ev_Vv (ci := 2) [] [] ca_Mail_bad_95 d_Mail_bad_4 rfl (H.1) rfl (Nat.le_of_ble_eq_true rfl) (f_badLines H.1) ?_
  refine ev_iret d_Mail_bad_7 rfl ?_
  exact ⟨rfl, rfl⟩
theorem w_read (hNm : gl_nm G) (hT : (gl_t G)[0]? = some (cI, .int)) (C : clS cI X h σ B T F bd) : ct_E G m_Mail_read [.ref X] h (cr (fun v h' => v = .int (nI (rdS T.length T [] 0 false).1.length) ∧ clP cI X h σ B [] (rdS T.length T [] 0 false).1 (rdS T.length T [] 0 false).2 h')) := by
  obtain ⟨S, H, C3, C4, ⟨f5, C5, C6⟩, C7, C8, C9⟩ := C
  have m2 : (2 : Nat) ∈ rws := by decide
  have hX := S.1.2.2
  refine ct_of (ws' := tb_all) rfl rfl (Nat.le_of_ble_eq_true rfl) ?_
  refine ev_aload_n d_Mail_read_0 rfl rfl ?_
  refine ev_get (fa_Mail_23 rfl rfl) d_Mail_read_1 C4 rfl ?_
  refine ev_aload_n d_Mail_read_4 rfl rfl ?_
  refine ev_get (fa_Mail_16 rfl rfl) d_Mail_read_5 C4 rfl ?_
  refine ev_Vn (ci := 2) [.ref (X + 2)] [] ca_Mail_read_85 d_Mail_read_8 rfl (H.1) rfl (Nat.le_of_ble_eq_true rfl) (w_readLines hNm hT S H (by rw [C8]; exact C9)) (fun h1 z => ?_)
  rw [C8] at z
  obtain ⟨σ1, S1, r1, p1, H1⟩ := z
  have K4 : h1.2.2 X = some (ml_o X) := kR_obj S r1 C4 (by omega) (by simp) (nrow (q := 0) (by decide))
  obtain ⟨K5, K7⟩ := kR_arr r1 C7 (by simp) hX
  have hX1 := S1.1.2.2
  refine ev_aload_n d_Mail_read_11 rfl rfl ?_
  refine ev_get (fa_Mail_16 rfl rfl) d_Mail_read_12 K4 rfl ?_
  refine ev_iconst (v := 0) d_Mail_read_15 (by decide) ?_
  refine ev_Vn (ci := 1) [.int 0] [] ca_Mail_read_89 d_Mail_read_16 rfl ((S1.1.1 _ m2).1.1) rfl (Nat.le_of_ble_eq_true rfl) (w_cutTo S1.1 m2 0 (fun z => absurd z (by decide))) (fun h1 z => ?_)
  obtain ⟨q1, q2⟩ := z
  have S2 := tS_go S1 q1 q2
  have K42 := rwR_obj S1.1 q2 K4 (by omega) (nrow (q := 0) (by decide))
  have H2 : hS X h1 (rwU σ1 2 ((σ1 2).1, (σ1 2).2.1, cutR (σ1 2).2.2 0)) (rdS T.length T [] 0 false).1 false (rdS T.length T [] 0 false).2 := ⟨rwR_obj S1.1 q2 H1.1 (by omega) (nrow (by decide)), H1.2.1, H1.2.2.1, H1.2.2.2.1, H1.2.2.2.2⟩
  obtain ⟨K52, K72⟩ := kR_arr (O := []) (kR_of q2) K7 (by simp) hX1
  refine ev_aload_n d_Mail_read_19 rfl rfl ?_
  refine ev_get (fa_Mail_23 rfl rfl) d_Mail_read_20 K42 rfl ?_
  refine ev_Vv (ci := 2) [] [] ca_Mail_read_92 d_Mail_read_23 rfl (H2.1) rfl (Nat.le_of_ble_eq_true rfl) (w_count S2 H2) ?_
  refine ev_iret d_Mail_read_26 rfl ?_
  have hrd : (fK (rdS T.length T [] 0 false).1).length ≤ 1501 := by
    have hl := l_rdS_len T
    omega
  refine ⟨_, rfl, rfl, _, ⟨S2, H2, hrd, K42, ⟨f5, by rw [K52, K5]; exact C5, C6⟩, K72, rfl, by decide⟩, kR_tr (kR_sub r1 (by simp)) (kR_of q2), fun τ hτ => ?_⟩
  rw [rwU_ne (fun z => hτ (by simp [z]))]
  exact p1 τ (fun z => hτ (by simp at z; rcases z with z | z <;> simp [z]))
end MAIL2
