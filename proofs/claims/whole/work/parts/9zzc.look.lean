/-! the class: group, length, at, strong -/
/-- in which texts, by what is asked for -/
def tF (w : Int32) : Nat := if w = 0 ∨ w = 1 ∨ w = 2 then 19 else if w = 3 then 26 else if w = 4 then 34 else if w = 5 ∨ w = 6 then 41 else 65
theorem tF_in (w : Int32) : tF w ∈ txs := by
  unfold tF
  split
  · decide
  · split
    · decide
    · split
      · decide
      · split <;> decide
/-- which text there -/
def xF (n w k : Int32) : Int32 := if w = 0 ∨ w = 1 ∨ w = 2 then (if k < 0 ∨ n ≤ k then -1 else 3 * k + w) else if w = 5 ∨ w = 6 then (if k = 0 then w - 5 else -1) else k
/-- a text by its number -/
def txG (Ls : List (List Int32)) (x : Int32) : Option (List Int32) := if x < 0 then none else Ls[x.toNatClampNeg]?
theorem txG_sz {Ls : List (List Int32)} (hL : Ls.length < 2 ^ 30) (x : Int32) : szO (bnT Ls) x = oL (txG Ls x) := by
  unfold txG
  by_cases h0 : x < 0
  · rw [if_pos h0, szT_no hL (Or.inl h0)]
    rfl
  · rw [if_neg h0]
    obtain ⟨j, hj, rfl⟩ := nI_of h0
    rw [nI_clamp hj]
    cases hx : Ls[j]? with
    | none =>
      have hle : Ls.length ≤ j := by
        rcases Nat.lt_or_ge j Ls.length with q | q
        · rw [List.getElem?_eq_getElem q] at hx; cases hx
        · exact q
      rw [szT_no hL (Or.inr (nI_le hle hj))]
      rfl
    | some l =>
      rw [szT hL hx]
      rfl
theorem txG_bt {Ls : List (List Int32)} {op : List Int32} (hL : Ls.length < 2 ^ 30) (hb : Ls.flatten.length < 2 ^ 30) (x i : Int32) : btO (Ls.flatten ++ op) (bnT Ls) x i = oB (txG Ls x) i := by
  unfold txG
  by_cases h0 : x < 0
  · rw [if_pos h0, btT_no hL (Or.inl h0)]
    rfl
  · rw [if_neg h0]
    obtain ⟨j, hj, rfl⟩ := nI_of h0
    rw [nI_clamp hj]
    cases hx : Ls[j]? with
    | none =>
      have hle : Ls.length ≤ j := by
        rcases Nat.lt_or_ge j Ls.length with q | q
        · rw [List.getElem?_eq_getElem q] at hx; cases hx
        · exact q
      rw [btT_no hL (Or.inr (nI_le hle hj))]
      rfl
    | some l =>
      rw [btT hL hb hx]
      rfl
theorem f3_at : ∀ (ms : List adM) (m : Nat), (f3 ms)[3 * m]? = (ms.map (fun q => q.1.1))[m]? ∧ (f3 ms)[3 * m + 1]? = (ms.map (fun q => q.1.2.1))[m]? ∧ (f3 ms)[3 * m + 2]? = (ms.map (fun q => q.1.2.2))[m]?
  | [], m => by simp [f3]
  | q :: t, 0 => ⟨rfl, rfl, rfl⟩
  | q :: t, m + 1 => by
    obtain ⟨h1, h2, h3⟩ := f3_at t m
    have e : f3 (q :: t) = q.1.1 :: q.1.2.1 :: q.1.2.2 :: f3 t := rfl
    have k0 : ∀ n, (q.1.1 :: q.1.2.1 :: q.1.2.2 :: f3 t)[n + 3]? = (f3 t)[n]? := fun n => rfl
    rw [e]
    refine ⟨?_, ?_, ?_⟩
    · rw [show 3 * (m + 1) = 3 * m + 3 by omega, k0]
      exact h1
    · rw [show 3 * (m + 1) + 1 = 3 * m + 1 + 3 by omega, k0]
      exact h2
    · rw [show 3 * (m + 1) + 2 = 3 * m + 2 + 3 by omega, k0]
      exact h3
/-- what the class keeps of what was read last, all of it -/
def eAd (X : Nat) (h : hp_T) (σ : rwT) (P : Pts) (gs : List Int32) (I : Nat → Int32) : Prop := (∃ (s : adT) (c : Int32), acS X h σ s c ∧ adH s P gs I) ∧ txH σ 65 [] [] ∧ (P 5).length = (P 6).length ∧ (P 5).length ≤ 1
abbrev eU : List Nat := [20, 22, 24, 27, 29, 66, 68]
theorem eAd_fr {X : Nat} {h h' : hp_T} {σ σ' : rwT} {P P' : Pts} {gs : List Int32} {I I' : Nat → Int32} (H : eAd X h σ P gs I) (h18 : h'.2.2 (X + 18) = h.2.2 (X + 18)) (hr : ∀ τ ∈ eU, (σ' τ).2.2 = (σ τ).2.2) (hP : ∀ w, w < 4 → P' w = P w) (h56 : (P' 5).length = (P' 6).length ∧ (P' 5).length ≤ 1) (h24 : I' 24 = I 24) (h25 : I' 25 = I 25) : eAd X h' σ' P' gs I' := by
  obtain ⟨⟨s, c, ⟨A1, A2, A3, A4⟩, B0, B1, B2, B3, B4, B5, B6⟩, H2, -⟩ := H
  refine ⟨⟨s, c, ⟨h18.trans A1, txH_same A2 (hr 20 (by decide)) (hr 22 (by decide)), txH_same A3 (hr 27 (by decide)) (hr 29 (by decide)), (hr 24 (by decide)).trans A4⟩, ?_, ?_, ?_, ?_, B4, h24.trans B5, h25.trans B6⟩, txH_same H2 (hr 66 (by decide)) (hr 68 (by decide)), h56⟩
  · rw [hP 0 (by decide)]; exact B0
  · rw [hP 1 (by decide)]; exact B1
  · rw [hP 2 (by decide)]; exact B2
  · rw [hP 3 (by decide)]; exact B3
/-- behind a call of the class that reads no addresses -/
theorem eAd_cl {X : Nat} {h h' : hp_T} {σ σ' : rwT} {P : Pts} {gs : List Int32} {I : Nat → Int32} {ρs : List Nat} (H : eAd X h σ P gs I) (h18 : h'.2.2 (X + 18) = h.2.2 (X + 18)) (hr : ∀ τ, τ ∉ ρs → (σ' τ).2.2 = (σ τ).2.2) (hd : ∀ τ ∈ eU, τ ∉ ρs) : eAd X h' σ' P gs I := eAd_fr H h18 (fun τ hτ => hr τ (hd τ hτ)) (fun _ _ => rfl) H.2.2 rfl rfl
section LOOK
variable {G : gl_G} {cI : ClassId} {h : hp_T} {X : Nat} {σ : rwT}
theorem z_atextOf (S : tS cI X h σ) (O : obS X h) (k w : Int32) : ct_E G m_Addresses_textOf [.ref (X + 18), .int k, .int w] h (cv (.int (if k < 0 ∨ nI (σ 24).2.2.length ≤ k then -1 else 3 * k + w)) h) := by
  obtain ⟨-, ⟨a, b, c, O2⟩, -⟩ := id O
  refine ct_of (ws' := tb_all) rfl rfl (Nat.le_of_ble_eq_true rfl) ?_
  have no : (k < 0 ∨ nI (σ 24).2.2.length ≤ k) → ev_E G m_Addresses_textOf 20 [(0, .ref (X + 18)), (1, .int k), (2, .int w)] [] h (cv (.int (if k < 0 ∨ nI (σ 24).2.2.length ≤ k then -1 else 3 * k + w)) h) := by
    intro hq
    rw [if_pos hq]
    refine ev_iconst (v := (-1)) d_Addresses_textOf_20 (by decide) ?_
    refine ev_iret d_Addresses_textOf_21 rfl ?_
    exact ⟨rfl, rfl⟩
  refine ev_iload_n d_Addresses_textOf_0 rfl rfl ?_
  refine ev_if_lt (tgt := 20) d_Addresses_textOf_1 (by decide) (fun c_1 => ?_) (fun c_1 => ?_)
  · exact no (Or.inl c_1)
  · refine ev_iload_n d_Addresses_textOf_4 rfl rfl ?_
    refine ev_aload_n d_Addresses_textOf_5 rfl rfl ?_
    refine ev_Vv (ci := 5) [] [.int k] ca_Addresses_textOf_53 d_Addresses_textOf_6 rfl (O2) rfl (Nat.le_of_ble_eq_true rfl) (w_acount S O) ?_
    refine ev_icmp_ge (tgt := 20) d_Addresses_textOf_9 (by decide) (fun c_9 => ?_) (fun c_9 => ?_)
    · exact no (Or.inr c_9)
    · rw [if_neg (fun z => z.elim c_1 c_9)]
      refine ev_iconst (v := 3) d_Addresses_textOf_12 (by decide) ?_
      refine ev_iload_n d_Addresses_textOf_13 rfl rfl ?_
      refine ev_imul d_Addresses_textOf_14 ?_
      refine ev_iload_n d_Addresses_textOf_15 rfl rfl ?_
      refine ev_iadd d_Addresses_textOf_16 ?_
      refine ev_goto (tgt := 21) d_Addresses_textOf_17 (by decide) ?_
      refine ev_iret d_Addresses_textOf_21 rfl ?_
      exact ⟨rfl, rfl⟩
theorem z_textsFor (S : tS cI X h σ) (O : obS X h) (hX : h.2.2 X = some (ml_o X)) (w : Int32) : ct_E G m_Mail_textsFor [.ref X, .int w] h (cv (.ref (X + tF w)) h) := by
  obtain ⟨-, ⟨a, b, c, O2⟩, -⟩ := id O
  have a44 : tF w = 19 → ev_E G m_Mail_textsFor 44 [(0, .ref X), (1, .int w)] [] h (cv (.ref (X + tF w)) h) := by
    intro e
    rw [e]
    refine ev_aload_n d_Mail_textsFor_44 rfl rfl ?_
    refine ev_get (fa_Mail_39 rfl rfl) d_Mail_textsFor_45 hX rfl ?_
    refine ev_Vv (ci := 5) [] [] ca_Mail_textsFor_175 d_Mail_textsFor_48 rfl (O2) rfl (Nat.le_of_ble_eq_true rfl) (w_atexts O) ?_
    refine ev_aret d_Mail_textsFor_51 rfl (Or.inl ⟨_, rfl⟩) ?_
    exact ⟨rfl, rfl⟩
  have a68 : tF w = 41 → ev_E G m_Mail_textsFor 68 [(0, .ref X), (1, .int w)] [] h (cv (.ref (X + tF w)) h) := by
    intro e
    rw [e]
    refine ev_aload_n d_Mail_textsFor_68 rfl rfl ?_
    refine ev_get (fa_Mail_60 rfl rfl) d_Mail_textsFor_69 hX rfl ?_
    refine ev_Vv (ci := 8) [] [] ca_Mail_textsFor_176 d_Mail_textsFor_72 rfl (O.2.2.2.2) rfl (Nat.le_of_ble_eq_true rfl) (w_parts O) ?_
    refine ev_aret d_Mail_textsFor_75 rfl (Or.inl ⟨_, rfl⟩) ?_
    exact ⟨rfl, rfl⟩
  refine ct_of (ws' := tb_all) rfl rfl (Nat.le_of_ble_eq_true rfl) ?_
  refine ev_iload_n d_Mail_textsFor_0 rfl rfl ?_
  by_cases h0 : w = 0
  · subst h0
    exact ev_tableIn (off := 43) (tgt := 44) d_Mail_textsFor_1 (by decide) (by decide) (by decide) (by decide) (a44 rfl)
  by_cases h1 : w = 1
  · subst h1
    exact ev_tableIn (off := 43) (tgt := 44) d_Mail_textsFor_1 (by decide) (by decide) (by decide) (by decide) (a44 rfl)
  by_cases h2 : w = 2
  · subst h2
    exact ev_tableIn (off := 43) (tgt := 44) d_Mail_textsFor_1 (by decide) (by decide) (by decide) (by decide) (a44 rfl)
  by_cases h3 : w = 3
  · subst h3
    refine ev_tableIn (off := 51) (tgt := 52) d_Mail_textsFor_1 (by decide) (by decide) (by decide) (by decide) ?_
    refine ev_aload_n d_Mail_textsFor_52 rfl rfl ?_
    refine ev_get (fa_Mail_39 rfl rfl) d_Mail_textsFor_53 hX rfl ?_
    refine ev_Vv (ci := 5) [] [] ca_Mail_textsFor_145 d_Mail_textsFor_56 rfl (O2) rfl (Nat.le_of_ble_eq_true rfl) (w_gnames O) ?_
    refine ev_aret d_Mail_textsFor_59 rfl (Or.inl ⟨_, rfl⟩) ?_
    exact ⟨rfl, rfl⟩
  by_cases h4 : w = 4
  · subst h4
    refine ev_tableIn (off := 59) (tgt := 60) d_Mail_textsFor_1 (by decide) (by decide) (by decide) (by decide) ?_
    refine ev_aload_n d_Mail_textsFor_60 rfl rfl ?_
    refine ev_get (fa_Mail_46 rfl rfl) d_Mail_textsFor_61 hX rfl ?_
    refine ev_Vv (ci := 6) [] [] ca_Mail_textsFor_134 d_Mail_textsFor_64 rfl (O.2.2.1) rfl (Nat.le_of_ble_eq_true rfl) (w_itexts O) ?_
    refine ev_aret d_Mail_textsFor_67 rfl (Or.inl ⟨_, rfl⟩) ?_
    exact ⟨rfl, rfl⟩
  by_cases h5 : w = 5
  · subst h5
    exact ev_tableIn (off := 67) (tgt := 68) d_Mail_textsFor_1 (by decide) (by decide) (by decide) (by decide) (a68 rfl)
  by_cases h6 : w = 6
  · subst h6
    exact ev_tableIn (off := 67) (tgt := 68) d_Mail_textsFor_1 (by decide) (by decide) (by decide) (by decide) (a68 rfl)
  rcases tsw w (n := 7) (by decide) with z | ⟨j, hj, hw⟩
  · have e : tF w = 65 := by
      unfold tF
      rw [if_neg (fun z => z.elim h0 (fun z => z.elim h1 h2)), if_neg h3, if_neg h4, if_neg (fun z => z.elim h5 h6)]
    refine ev_tableOut (tgt := 76) d_Mail_textsFor_1 (by omega) (by decide) ?_
    rw [e]
    refine ev_aload_n d_Mail_textsFor_76 rfl rfl ?_
    refine ev_get (fa_Mail_67 rfl rfl) d_Mail_textsFor_77 hX rfl ?_
    refine ev_aret d_Mail_textsFor_80 rfl (Or.inl ⟨_, rfl⟩) ?_
    exact ⟨rfl, rfl⟩
  · rcases (show j = 0 ∨ j = 1 ∨ j = 2 ∨ j = 3 ∨ j = 4 ∨ j = 5 ∨ j = 6 by omega) with rfl | rfl | rfl | rfl | rfl | rfl | rfl
    · exact absurd hw h0
    · exact absurd hw h1
    · exact absurd hw h2
    · exact absurd hw h3
    · exact absurd hw h4
    · exact absurd hw h5
    · exact absurd hw h6
theorem z_textFor (S : tS cI X h σ) (O : obS X h) (hX : h.2.2 X = some (ml_o X)) (w k : Int32) : ct_E G m_Mail_textFor [.ref X, .int w, .int k] h (cv (.int (xF (nI (σ 24).2.2.length) w k)) h) := by
  obtain ⟨-, ⟨a, b, c, O2⟩, -⟩ := id O
  have a66 : xF (nI (σ 24).2.2.length) w k = k → ev_E G m_Mail_textFor 66 [(0, .ref X), (1, .int w), (2, .int k)] [] h (cv (.int (xF (nI (σ 24).2.2.length) w k)) h) := by
    intro e
    rw [e]
    refine ev_iload_n d_Mail_textFor_66 rfl rfl ?_
    refine ev_iret d_Mail_textFor_67 rfl ?_
    exact ⟨rfl, rfl⟩
  have a44 : (w = 0 ∨ w = 1 ∨ w = 2) → ev_E G m_Mail_textFor 44 [(0, .ref X), (1, .int w), (2, .int k)] [] h (cv (.int (xF (nI (σ 24).2.2.length) w k)) h) := by
    intro e
    unfold xF
    rw [if_pos e]
    refine ev_aload_n d_Mail_textFor_44 rfl rfl ?_
    refine ev_get (fa_Mail_39 rfl rfl) d_Mail_textFor_45 hX rfl ?_
    refine ev_iload_n d_Mail_textFor_48 rfl rfl ?_
    refine ev_iload_n d_Mail_textFor_49 rfl rfl ?_
    refine ev_Vv (ci := 5) [.int k, .int w] [] ca_Mail_textFor_179 d_Mail_textFor_50 rfl (O2) rfl (Nat.le_of_ble_eq_true rfl) (z_atextOf S O k w) ?_
    refine ev_iret d_Mail_textFor_53 rfl ?_
    exact ⟨rfl, rfl⟩
  have a54 : (w = 5 ∨ w = 6) → ev_E G m_Mail_textFor 54 [(0, .ref X), (1, .int w), (2, .int k)] [] h (cv (.int (xF (nI (σ 24).2.2.length) w k)) h) := by
    intro e
    have n : ¬ (w = 0 ∨ w = 1 ∨ w = 2) := by rcases e with rfl | rfl <;> decide
    unfold xF
    rw [if_neg n, if_pos e]
    refine ev_iload_n d_Mail_textFor_54 rfl rfl ?_
    by_cases hk : k = 0
    · refine ev_if_ne (tgt := 64) d_Mail_textFor_55 (by decide) (fun z => absurd hk z) (fun _ => ?_)
      rw [if_pos hk]
      refine ev_iload_n d_Mail_textFor_58 rfl rfl ?_
      refine ev_iconst (v := 5) d_Mail_textFor_59 (by decide) ?_
      refine ev_isub d_Mail_textFor_60 ?_
      refine ev_goto (tgt := 65) d_Mail_textFor_61 (by decide) ?_
      refine ev_iret d_Mail_textFor_65 rfl ?_
      exact ⟨rfl, rfl⟩
    · refine ev_if_ne (tgt := 64) d_Mail_textFor_55 (by decide) (fun _ => ?_) (fun z => absurd z hk)
      rw [if_neg hk]
      refine ev_iconst (v := (-1)) d_Mail_textFor_64 (by decide) ?_
      refine ev_iret d_Mail_textFor_65 rfl ?_
      exact ⟨rfl, rfl⟩
  refine ct_of (ws' := tb_all) rfl rfl (Nat.le_of_ble_eq_true rfl) ?_
  refine ev_iload_n d_Mail_textFor_0 rfl rfl ?_
  by_cases h0 : w = 0
  · subst h0
    exact ev_tableIn (off := 43) (tgt := 44) d_Mail_textFor_1 (by decide) (by decide) (by decide) (by decide) (a44 (by decide))
  by_cases h1 : w = 1
  · subst h1
    exact ev_tableIn (off := 43) (tgt := 44) d_Mail_textFor_1 (by decide) (by decide) (by decide) (by decide) (a44 (by decide))
  by_cases h2 : w = 2
  · subst h2
    exact ev_tableIn (off := 43) (tgt := 44) d_Mail_textFor_1 (by decide) (by decide) (by decide) (by decide) (a44 (by decide))
  have n012 : ¬ (w = 0 ∨ w = 1 ∨ w = 2) := fun z => z.elim h0 (fun z => z.elim h1 h2)
  by_cases h5 : w = 5
  · subst h5
    exact ev_tableIn (off := 53) (tgt := 54) d_Mail_textFor_1 (by decide) (by decide) (by decide) (by decide) (a54 (by decide))
  by_cases h6 : w = 6
  · subst h6
    exact ev_tableIn (off := 53) (tgt := 54) d_Mail_textFor_1 (by decide) (by decide) (by decide) (by decide) (a54 (by decide))
  have e : xF (nI (σ 24).2.2.length) w k = k := by
    unfold xF
    rw [if_neg n012, if_neg (fun z => z.elim h5 h6)]
  by_cases h3 : w = 3
  · subst h3
    exact ev_tableIn (off := 65) (tgt := 66) d_Mail_textFor_1 (by decide) (by decide) (by decide) (by decide) (a66 e)
  by_cases h4 : w = 4
  · subst h4
    exact ev_tableIn (off := 65) (tgt := 66) d_Mail_textFor_1 (by decide) (by decide) (by decide) (by decide) (a66 e)
  rcases tsw w (n := 7) (by decide) with z | ⟨j, hj, hw⟩
  · exact ev_tableOut (tgt := 66) d_Mail_textFor_1 (by omega) (by decide) (a66 e)
  · rcases (show j = 0 ∨ j = 1 ∨ j = 2 ∨ j = 3 ∨ j = 4 ∨ j = 5 ∨ j = 6 by omega) with rfl | rfl | rfl | rfl | rfl | rfl | rfl
    · exact absurd hw h0
    · exact absurd hw h1
    · exact absurd hw h2
    · exact absurd hw h3
    · exact absurd hw h4
    · exact absurd hw h5
    · exact absurd hw h6
theorem z_length (hT : (gl_t G)[0]? = some (cI, .int)) (S : tS cI X h σ) (O : obS X h) (hX : h.2.2 X = some (ml_o X)) (w k : Int32) : ct_E G m_Mail_length [.ref X, .int w, .int k] h (cv (.int (szO (σ (tF w + 3)).2.2 (xF (nI (σ 24).2.2.length) w k))) h) := by
  refine ct_of (ws' := tb_all) rfl rfl (Nat.le_of_ble_eq_true rfl) ?_
  refine ev_aload_n d_Mail_length_0 rfl rfl ?_
  refine ev_iload_n d_Mail_length_1 rfl rfl ?_
  refine ev_Vv (ci := 0) [.int w] [] ca_Mail_length_154 d_Mail_length_2 rfl (hX) rfl (Nat.le_of_ble_eq_true rfl) (z_textsFor S O hX w) ?_
  refine ev_aload_n d_Mail_length_5 rfl rfl ?_
  refine ev_iload_n d_Mail_length_6 rfl rfl ?_
  refine ev_iload_n d_Mail_length_7 rfl rfl ?_
  refine ev_Vv (ci := 0) [.int w, .int k] [.ref (X + tF w)] ca_Mail_length_158 d_Mail_length_8 rfl (hX) rfl (Nat.le_of_ble_eq_true rfl) (z_textFor S O hX w k) ?_
  refine ev_Vv (ci := 3) [.int _] [] ca_Mail_length_110 d_Mail_length_11 rfl ((S.2 (tF w) (tF_in w))) rfl (Nat.le_of_ble_eq_true rfl) (w_sizeOf hT S (tF_in w) _) ?_
  refine ev_iret d_Mail_length_14 rfl ?_
  exact ⟨rfl, rfl⟩
theorem z_at (hT : (gl_t G)[0]? = some (cI, .int)) (S : tS cI X h σ) (O : obS X h) (hX : h.2.2 X = some (ml_o X)) (w k i : Int32) : ct_E G m_Mail_at [.ref X, .int w, .int k, .int i] h (cv (.int (btO (σ (tF w + 1)).2.2 (σ (tF w + 3)).2.2 (xF (nI (σ 24).2.2.length) w k) i)) h) := by
  refine ct_of (ws' := tb_all) rfl rfl (Nat.le_of_ble_eq_true rfl) ?_
  refine ev_aload_n d_Mail_at_0 rfl rfl ?_
  refine ev_iload_n d_Mail_at_1 rfl rfl ?_
  refine ev_Vv (ci := 0) [.int w] [] ca_Mail_at_154 d_Mail_at_2 rfl (hX) rfl (Nat.le_of_ble_eq_true rfl) (z_textsFor S O hX w) ?_
  refine ev_aload_n d_Mail_at_5 rfl rfl ?_
  refine ev_iload_n d_Mail_at_6 rfl rfl ?_
  refine ev_iload_n d_Mail_at_7 rfl rfl ?_
  refine ev_Vv (ci := 0) [.int w, .int k] [.ref (X + tF w)] ca_Mail_at_158 d_Mail_at_8 rfl (hX) rfl (Nat.le_of_ble_eq_true rfl) (z_textFor S O hX w k) ?_
  refine ev_iload_n d_Mail_at_11 rfl rfl ?_
  refine ev_Vv (ci := 3) [.int _, .int i] [] ca_Mail_at_114 d_Mail_at_12 rfl ((S.2 (tF w) (tF_in w))) rfl (Nat.le_of_ble_eq_true rfl) (w_byteOf hT S (tF_in w) _ i) ?_
  refine ev_iret d_Mail_at_15 rfl ?_
  exact ⟨rfl, rfl⟩
theorem z_group (hT : (gl_t G)[0]? = some (cI, .int)) (S : tS cI X h σ) (O : obS X h) (hX : h.2.2 X = some (ml_o X)) {P : Pts} {gs : List Int32} {I : Nat → Int32} (ht : eAd X h σ P gs I) (w k : Int32) : ct_E G m_Mail_group [.ref X, .int w, .int k] h (cv (.int (if w = 0 then I 24 else if w = 1 then I 25 else if w = 2 then rg gs k else -1)) h) := by
  have m : (26 : Nat) ∈ txs := by decide
  have m24 : (24 : Nat) ∈ rws := by decide
  obtain ⟨⟨s, c, ⟨hA, A2, A3, A4⟩, -, -, -, -, B4, B5, B6⟩, -⟩ := ht
  refine ct_of (ws' := tb_all) rfl rfl (Nat.le_of_ble_eq_true rfl) ?_
  refine ev_iload_n d_Mail_group_0 rfl rfl ?_
  by_cases h0 : w = 0
  · subst h0
    rw [if_pos rfl, B5]
    refine ev_tableIn (off := 27) (tgt := 28) d_Mail_group_1 (by decide) (by decide) (by decide) (by decide) ?_
    refine ev_aload_n d_Mail_group_28 rfl rfl ?_
    refine ev_get (fa_Mail_39 rfl rfl) d_Mail_group_29 hX rfl ?_
    refine ev_Vv (ci := 5) [] [] ca_Mail_group_145 d_Mail_group_32 rfl (hA) rfl (Nat.le_of_ble_eq_true rfl) (w_gnames O) ?_
    refine ev_Vv (ci := 3) [] [] ca_Mail_group_135 d_Mail_group_35 rfl ((S.2 26 m)) rfl (Nat.le_of_ble_eq_true rfl) (c_Texts_count (tS_tx S m)) ?_
    rw [show (σ (26 + 3)).2.2 = bnT s.2.1 from A3.2, bnT_len, nI_pred]
    refine ev_iret d_Mail_group_38 rfl ?_
    exact ⟨rfl, rfl⟩
  rw [if_neg h0]
  by_cases h1 : w = 1
  · subst h1
    rw [if_pos rfl, B6]
    refine ev_tableIn (off := 38) (tgt := 39) d_Mail_group_1 (by decide) (by decide) (by decide) (by decide) ?_
    have bo : ct_E G m_Addresses_badOnes [.ref (X + 18)] h (cv (.int (nI s.2.2.1)) h) := by
      refine ct_of (ws' := tb_all) rfl rfl (Nat.le_of_ble_eq_true rfl) ?_
      refine ev_aload_n d_Addresses_badOnes_0 rfl rfl ?_
      refine ev_get (fa_Addresses_35 rfl rfl) d_Addresses_badOnes_1 hA rfl ?_
      refine ev_iret d_Addresses_badOnes_4 rfl ?_
      exact ⟨rfl, rfl⟩
    refine ev_aload_n d_Mail_group_39 rfl rfl ?_
    refine ev_get (fa_Mail_39 rfl rfl) d_Mail_group_40 hX rfl ?_
    refine ev_Vv (ci := 5) [] [] ca_Mail_group_148 d_Mail_group_43 rfl (hA) rfl (Nat.le_of_ble_eq_true rfl) (bo) ?_
    refine ev_iret d_Mail_group_46 rfl ?_
    exact ⟨rfl, rfl⟩
  rw [if_neg h1]
  by_cases h2 : w = 2
  · subst h2
    rw [if_pos rfl, B4, ← A4]
    refine ev_tableIn (off := 46) (tgt := 47) d_Mail_group_1 (by decide) (by decide) (by decide) (by decide) ?_
    have go : ct_E G m_Addresses_groupOf [.ref (X + 18), .int k] h (cv (.int (rg (σ 24).2.2 k)) h) := by
      refine ct_of (ws' := tb_all) rfl rfl (Nat.le_of_ble_eq_true rfl) ?_
      refine ev_aload_n d_Addresses_groupOf_0 rfl rfl ?_
      refine ev_get (fa_Addresses_25 rfl rfl) d_Addresses_groupOf_1 hA rfl ?_
      refine ev_iload_n d_Addresses_groupOf_4 rfl rfl ?_
      refine ev_Vv (ci := 1) [.int k] [] ca_Addresses_groupOf_49 d_Addresses_groupOf_5 rfl ((S.1.1 _ m24).1.1) rfl (Nat.le_of_ble_eq_true rfl) (w_get hT S.1 m24 k) ?_
      refine ev_iret d_Addresses_groupOf_8 rfl ?_
      exact ⟨rfl, rfl⟩
    refine ev_aload_n d_Mail_group_47 rfl rfl ?_
    refine ev_get (fa_Mail_39 rfl rfl) d_Mail_group_48 hX rfl ?_
    refine ev_iload_n d_Mail_group_51 rfl rfl ?_
    refine ev_Vv (ci := 5) [.int k] [] ca_Mail_group_151 d_Mail_group_52 rfl (hA) rfl (Nat.le_of_ble_eq_true rfl) (go) ?_
    refine ev_iret d_Mail_group_55 rfl ?_
    exact ⟨rfl, rfl⟩
  rw [if_neg h2]
  rcases tsw w (n := 3) (by decide) with z | ⟨j, hj, hw⟩
  · refine ev_tableOut (tgt := 56) d_Mail_group_1 (by omega) (by decide) ?_
    refine ev_iconst (v := (-1)) d_Mail_group_56 (by decide) ?_
    refine ev_iret d_Mail_group_57 rfl ?_
    exact ⟨rfl, rfl⟩
  · rcases (show j = 0 ∨ j = 1 ∨ j = 2 by omega) with rfl | rfl | rfl
    · exact absurd hw h0
    · exact absurd hw h1
    · exact absurd hw h2
/-- what length and at tell is the reference's part -/
theorem txG_prt (S : tS cI X h σ) {P : Pts} {Q : List Prm} {gs : List Int32} {I : Nat → Int32} (he : eS σ P Q) (ht : eAd X h σ P gs I) (w k : Int32) : ∃ Ls : List (List Int32), txH σ (tF w) Ls [] ∧ txG Ls (xF (nI (σ 24).2.2.length) w k) = prt P w k := by
  obtain ⟨⟨s, c, ⟨hA, A2, A3, A4⟩, B0, B1, B2, B3, -⟩, N1, N2, N3⟩ := ht
  have hsl : s.1.length ≤ 4096 := by
    have := row_le S (ρ := 24) (by decide)
    rw [A4, List.length_map] at this
    exact this
  have e24 : (σ 24).2.2.length = s.1.length := by rw [A4, List.length_map]
  rw [e24]
  -- one of a mailbox's three
  have tri : ∀ (i : Nat), i < 3 → w = nI i → (∀ m : Nat, (f3 s.1)[3 * m + i]? = (P i)[m]?) → (P i).length = s.1.length → txH σ (tF w) (f3 s.1) [] → ∃ Ls : List (List Int32), txH σ (tF w) Ls [] ∧ txG Ls (xF (nI s.1.length) w k) = prt P w k := by
    intro i hi hw hm hl hx
    refine ⟨_, hx, ?_⟩
    have hc : w = 0 ∨ w = 1 ∨ w = 2 := by
      rcases (show i = 0 ∨ i = 1 ∨ i = 2 by omega) with rfl | rfl | rfl
      · exact Or.inl hw
      · exact Or.inr (Or.inl hw)
      · exact Or.inr (Or.inr hw)
    have hw1 : ¬ w < 0 := by rw [hw]; exact nI_pos (by omega)
    have hw2 : ¬ 6 < w := by rw [hw]; exact fun z => nI_nlt (a := 6) (b := i) (by omega) (by omega) z
    unfold xF prt
    rw [if_pos hc]
    by_cases hk : k < 0
    · rw [if_pos (Or.inl hk), if_pos (Or.inr (Or.inr hk))]
      rfl
    · rw [if_neg (show ¬ (w < 0 ∨ 6 < w ∨ k < 0) from fun z => z.elim hw1 (fun z => z.elim hw2 hk))]
      obtain ⟨m, hm2, rfl⟩ := nI_of hk
      rw [hw, nI_clamp (by omega), nI_clamp hm2]
      by_cases hge : nI s.1.length ≤ nI m
      · rw [if_pos (Or.inr hge), List.getElem?_eq_none (by have := (nI_leI (by omega) hm2).mp hge; omega)]
        rfl
      · have hlt : m < s.1.length := Nat.lt_of_not_le (fun q => hge (nI_le q hm2))
        rw [if_neg (fun z => z.elim hk hge), show (3 : Int32) * nI m = nI (3 * m) from pk_mul 3 m, nI_add]
        unfold txG
        rw [if_neg (nI_pos (by omega)), nI_clamp (by omega), hm m]
  have one : ∀ (i t : Nat) (Ls : List (List Int32)), (i = 3 ∨ i = 4) → w = nI i → tF w = t → P i = Ls → txH σ t Ls [] → ∃ Ls : List (List Int32), txH σ (tF w) Ls [] ∧ txG Ls (xF (nI s.1.length) w k) = prt P w k := by
    intro i t Ls hi hw et hP hx
    refine ⟨Ls, by rw [et]; exact hx, ?_⟩
    have e : xF (nI s.1.length) w k = k := by
      unfold xF
      rcases hi with rfl | rfl
      · rw [if_neg (by rw [hw]; decide), if_neg (by rw [hw]; decide)]
      · rw [if_neg (by rw [hw]; decide), if_neg (by rw [hw]; decide)]
    have hw1 : ¬ w < 0 := by rw [hw]; exact nI_pos (by omega)
    have hw2 : ¬ 6 < w := by rw [hw]; exact fun z => nI_nlt (a := 6) (b := i) (by omega) (by omega) z
    rw [e]
    unfold txG prt
    by_cases hk : k < 0
    · rw [if_pos hk, if_pos (Or.inr (Or.inr hk))]
    · rw [if_neg hk, if_neg (fun z => z.elim hw1 (fun z => z.elim hw2 hk)), hw, nI_clamp (by omega), hP]
  have two : ∀ (i : Nat), (i = 5 ∨ i = 6) → w = nI i → tF w = 41 → (P i)[0]? = (P 5 ++ P 6)[i - 5]? → (P i).length ≤ 1 → ∃ Ls : List (List Int32), txH σ (tF w) Ls [] ∧ txG Ls (xF (nI s.1.length) w k) = prt P w k := by
    intro i hi hw et hP hl
    refine ⟨_, by rw [et]; exact he.2.2, ?_⟩
    have hw1 : ¬ w < 0 := by rw [hw]; exact nI_pos (by omega)
    have hw2 : ¬ 6 < w := by rw [hw]; exact fun z => nI_nlt (a := 6) (b := i) (by omega) (by omega) z
    unfold xF prt
    rw [if_neg (by rcases hi with rfl | rfl <;> (rw [hw]; decide)), if_pos (by rcases hi with rfl | rfl <;> (rw [hw]; decide))]
    by_cases hk0 : k = 0
    · rw [if_pos hk0, hk0, if_neg (fun z => z.elim hw1 (fun z => z.elim hw2 (by decide)))]
      rcases hi with rfl | rfl
      · rw [hw]
        unfold txG
        rw [if_neg (by decide)]
        exact hP.symm
      · rw [hw]
        unfold txG
        rw [if_neg (by decide)]
        exact hP.symm
    · rw [if_neg hk0]
      by_cases hk : k < 0
      · rw [if_pos (Or.inr (Or.inr hk))]
        rfl
      · rw [if_neg (fun z => z.elim hw1 (fun z => z.elim hw2 hk))]
        obtain ⟨m, hm2, rfl⟩ := nI_of hk
        have hm0 : m ≠ 0 := fun z => hk0 (by rw [z]; rfl)
        rw [hw, nI_clamp (by omega), nI_clamp hm2, List.getElem?_eq_none (by omega)]
        rfl
  have p56 : (P 5)[0]? = (P 5 ++ P 6)[0]? ∧ (P 6)[0]? = (P 5 ++ P 6)[1]? := by
    cases h5 : P 5 with
    | nil =>
      cases h6 : P 6 with
      | nil => exact ⟨rfl, rfl⟩
      | cons y u => rw [h5, h6] at N2; cases N2
    | cons x t =>
      have ht0 : t = [] := by
        rw [h5, List.length_cons] at N3
        exact List.length_eq_zero_iff.mp (by omega)
      subst ht0
      exact ⟨rfl, rfl⟩
  by_cases h0 : w = 0
  · refine tri 0 (by decide) h0 (fun m => by rw [B0]; exact (f3_at s.1 m).1) (by rw [B0, List.length_map]) ?_
    rw [h0]; exact A2
  by_cases h1 : w = 1
  · refine tri 1 (by decide) h1 (fun m => by rw [B1]; exact (f3_at s.1 m).2.1) (by rw [B1, List.length_map]) ?_
    rw [h1]; exact A2
  by_cases h2 : w = 2
  · refine tri 2 (by decide) h2 (fun m => by rw [B2]; exact (f3_at s.1 m).2.2) (by rw [B2, List.length_map]) ?_
    rw [h2]; exact A2
  by_cases h3 : w = 3
  · exact one 3 26 s.2.1 (Or.inl rfl) h3 (by rw [h3]; rfl) B3 A3
  by_cases h4 : w = 4
  · exact one 4 34 (P 4) (Or.inr rfl) h4 (by rw [h4]; rfl) rfl he.2.1
  by_cases h5 : w = 5
  · exact two 5 (Or.inl rfl) h5 (by rw [h5]; rfl) p56.1 N3
  by_cases h6 : w = 6
  · exact two 6 (Or.inr rfl) h6 (by rw [h6]; rfl) p56.2 (by omega)
  · have e : tF w = 65 := by
      unfold tF
      rw [if_neg (fun z => z.elim h0 (fun z => z.elim h1 h2)), if_neg h3, if_neg h4, if_neg (fun z => z.elim h5 h6)]
    refine ⟨[], by rw [e]; exact N1, ?_⟩
    have e1 : ∀ x : Int32, txG [] x = none := fun x => by unfold txG; split <;> rfl
    rw [e1]
    unfold prt
    by_cases hq : w < 0 ∨ 6 < w ∨ k < 0
    · rw [if_pos hq]
    · exfalso
      obtain ⟨j, hj, hw⟩ := nI_of (x := w) (fun z => hq (Or.inl z))
      have hj6 : j ≤ 6 := by
        rcases Nat.lt_or_ge 6 j with q | q
        · exact absurd (Or.inr (Or.inl (by rw [hw]; exact nI_lt (a := 6) (b := j) q (by omega)))) hq
        · exact q
      rcases (show j = 0 ∨ j = 1 ∨ j = 2 ∨ j = 3 ∨ j = 4 ∨ j = 5 ∨ j = 6 by omega) with rfl | rfl | rfl | rfl | rfl | rfl | rfl
      · exact h0 hw
      · exact h1 hw
      · exact h2 hw
      · exact h3 hw
      · exact h4 hw
      · exact h5 hw
      · exact h6 hw
theorem y_length (hT : (gl_t G)[0]? = some (cI, .int)) (S : tS cI X h σ) (O : obS X h) (hX : h.2.2 X = some (ml_o X)) {P : Pts} {Q : List Prm} {gs : List Int32} {I : Nat → Int32} (he : eS σ P Q) (ht : eAd X h σ P gs I) (w k : Int32) : ct_E G m_Mail_length [.ref X, .int w, .int k] h (cv (.int (oL (prt P w k))) h) := by
  obtain ⟨Ls, H, e⟩ := txG_prt S he ht w k
  have hl := txH_le S (tF_in w) H
  have k9 := z_length (G := G) hT S O hX w k
  rw [H.2, txG_sz (by omega), e] at k9
  exact k9
theorem y_at (hT : (gl_t G)[0]? = some (cI, .int)) (S : tS cI X h σ) (O : obS X h) (hX : h.2.2 X = some (ml_o X)) {P : Pts} {Q : List Prm} {gs : List Int32} {I : Nat → Int32} (he : eS σ P Q) (ht : eAd X h σ P gs I) (w k i : Int32) : ct_E G m_Mail_at [.ref X, .int w, .int k, .int i] h (cv (.int (oB (prt P w k) i)) h) := by
  obtain ⟨Ls, H, e⟩ := txG_prt S he ht w k
  have hl := txH_le S (tF_in w) H
  have k9 := z_at (G := G) hT S O hX w k i
  rw [H.1, H.2, txG_bt (by omega) (by omega), e] at k9
  exact k9
end LOOK
