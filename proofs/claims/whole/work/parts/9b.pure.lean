/-! the class: its other objects, and the calls that only look -/
def obS (X : Nat) (h : hp_T) : Prop := (∃ a b c : Value, h.2.2 (X + 10) = some (.inr (4, [.ref (X + 11), .ref (X + 16), a, b, c]))) ∧ (∃ a b c : Int32, h.2.2 (X + 18) = some (.inr (5, [.ref (X + 10), .ref (X + 19), .ref (X + 24), .ref (X + 26), .ref (X + 31), .int a, .int b, .int c]))) ∧ h.2.2 (X + 33) = some (.inr (6, [.ref (X + 34)])) ∧ (∃ a : Int32, h.2.2 (X + 39) = some (.inr (7, [.ref (X + 10), .int a]))) ∧ h.2.2 (X + 40) = some (.inr (8, [.ref (X + 10), .ref (X + 41), .ref (X + 46), .ref (X + 51), .ref (X + 56), .ref (X + 58), .ref (X + 60)]))
section PURE
variable {G : gl_G} {cI : ClassId} {h : hp_T} {X : Nat} {σ : rwT}
theorem w_groupOf (hT : (gl_t G)[0]? = some (cI, .int)) (S : tS cI X h σ) (O : obS X h) (k : Int32) : ct_E G m_Addresses_groupOf [.ref (X + 18), .int k] h (pu h) := by
  obtain ⟨-, ⟨a, b, c, O2⟩, -⟩ := O
  have m : (24 : Nat) ∈ rws := by decide
  refine ct_of (ws' := tb_all) rfl rfl (Nat.le_of_ble_eq_true rfl) ?_
  refine ev_aload_n d_Addresses_groupOf_0 rfl rfl ?_
  refine ev_get (fa_Addresses_25 rfl rfl) d_Addresses_groupOf_1 O2 rfl ?_
  refine ev_iload_n d_Addresses_groupOf_4 rfl rfl ?_
  refine ev_Vv (ci := 1) [.int k] [] ca_Addresses_groupOf_49 d_Addresses_groupOf_5 rfl ((S.1.1 _ m).1.1) rfl (Nat.le_of_ble_eq_true rfl) (w_get hT S.1 m k) ?_
  refine ev_iret d_Addresses_groupOf_8 rfl ?_
  exact ⟨_, rfl, ⟨_, rfl⟩, rfl⟩
theorem w_acount (S : tS cI X h σ) (O : obS X h) : ct_E G m_Addresses_count [.ref (X + 18)] h (cv (.int (nI (σ 24).2.2.length)) h) := by
  obtain ⟨-, ⟨a, b, c, O2⟩, -⟩ := O
  have m : (24 : Nat) ∈ rws := by decide
  refine ct_of (ws' := tb_all) rfl rfl (Nat.le_of_ble_eq_true rfl) ?_
  refine ev_aload_n d_Addresses_count_0 rfl rfl ?_
  refine ev_get (fa_Addresses_25 rfl rfl) d_Addresses_count_1 O2 rfl ?_
  refine ev_Vv (ci := 1) [] [] ca_Addresses_count_45 d_Addresses_count_4 rfl ((S.1.1 _ m).1.1) rfl (Nat.le_of_ble_eq_true rfl) (w_size S.1 m) ?_
  refine ev_iret d_Addresses_count_7 rfl ?_
  exact ⟨rfl, rfl⟩
theorem w_badOnes (O : obS X h) : ct_E G m_Addresses_badOnes [.ref (X + 18)] h (pu h) := by
  obtain ⟨-, ⟨a, b, c, O2⟩, -⟩ := O
  refine ct_of (ws' := tb_all) rfl rfl (Nat.le_of_ble_eq_true rfl) ?_
  refine ev_aload_n d_Addresses_badOnes_0 rfl rfl ?_
  refine ev_get (fa_Addresses_35 rfl rfl) d_Addresses_badOnes_1 O2 rfl ?_
  refine ev_iret d_Addresses_badOnes_4 rfl ?_
  exact ⟨_, rfl, ⟨_, rfl⟩, rfl⟩
theorem w_gnames (O : obS X h) : ct_E G m_Addresses_groupNames [.ref (X + 18)] h (cv (.ref (X + 26)) h) := by
  obtain ⟨-, ⟨a, b, c, O2⟩, -⟩ := O
  refine ct_of (ws' := tb_all) rfl rfl (Nat.le_of_ble_eq_true rfl) ?_
  refine ev_aload_n d_Addresses_groupNames_0 rfl rfl ?_
  refine ev_get (fa_Addresses_29 rfl rfl) d_Addresses_groupNames_1 O2 rfl ?_
  refine ev_aret d_Addresses_groupNames_4 rfl (Or.inl ⟨_, rfl⟩) ?_
  exact ⟨rfl, rfl⟩
theorem w_atexts (O : obS X h) : ct_E G m_Addresses_texts [.ref (X + 18)] h (cv (.ref (X + 19)) h) := by
  obtain ⟨-, ⟨a, b, c, O2⟩, -⟩ := O
  refine ct_of (ws' := tb_all) rfl rfl (Nat.le_of_ble_eq_true rfl) ?_
  refine ev_aload_n d_Addresses_texts_0 rfl rfl ?_
  refine ev_get (fa_Addresses_18 rfl rfl) d_Addresses_texts_1 O2 rfl ?_
  refine ev_aret d_Addresses_texts_4 rfl (Or.inl ⟨_, rfl⟩) ?_
  exact ⟨rfl, rfl⟩
theorem w_atextOf (S : tS cI X h σ) (O : obS X h) (k w : Int32) : ct_E G m_Addresses_textOf [.ref (X + 18), .int k, .int w] h (pu h) := by
  obtain ⟨-, ⟨a, b, c, O2⟩, -⟩ := id O
  refine ct_of (ws' := tb_all) rfl rfl (Nat.le_of_ble_eq_true rfl) ?_
  have no : ev_E G m_Addresses_textOf 20 [(0, .ref (X + 18)), (1, .int k), (2, .int w)] [] h (pu h) := by
    refine ev_iconst (v := (-1)) d_Addresses_textOf_20 (by decide) ?_
    refine ev_iret d_Addresses_textOf_21 rfl ?_
    exact ⟨_, rfl, ⟨_, rfl⟩, rfl⟩
  refine ev_iload_n d_Addresses_textOf_0 rfl rfl ?_
  refine ev_if_lt (tgt := 20) d_Addresses_textOf_1 (by decide) (fun c_1 => ?_) (fun c_1 => ?_)
  · exact no
  · refine ev_iload_n d_Addresses_textOf_4 rfl rfl ?_
    refine ev_aload_n d_Addresses_textOf_5 rfl rfl ?_
    refine ev_Vv (ci := 5) [] [.int k] ca_Addresses_textOf_53 d_Addresses_textOf_6 rfl (O2) rfl (Nat.le_of_ble_eq_true rfl) (w_acount S O) ?_
    refine ev_icmp_ge (tgt := 20) d_Addresses_textOf_9 (by decide) (fun c_9 => ?_) (fun c_9 => ?_)
    · exact no
    · refine ev_iconst (v := 3) d_Addresses_textOf_12 (by decide) ?_
      refine ev_iload_n d_Addresses_textOf_13 rfl rfl ?_
      refine ev_imul d_Addresses_textOf_14 ?_
      refine ev_iload_n d_Addresses_textOf_15 rfl rfl ?_
      refine ev_iadd d_Addresses_textOf_16 ?_
      refine ev_goto (tgt := 21) d_Addresses_textOf_17 (by decide) ?_
      refine ev_iret d_Addresses_textOf_21 rfl ?_
      exact ⟨_, rfl, ⟨_, rfl⟩, rfl⟩
theorem w_itexts (O : obS X h) : ct_E G m_Identities_texts [.ref (X + 33)] h (cv (.ref (X + 34)) h) := by
  refine ct_of (ws' := tb_all) rfl rfl (Nat.le_of_ble_eq_true rfl) ?_
  refine ev_aload_n d_Identities_texts_0 rfl rfl ?_
  refine ev_get (fa_Identities_12 rfl rfl) d_Identities_texts_1 O.2.2.1 rfl ?_
  refine ev_aret d_Identities_texts_4 rfl (Or.inl ⟨_, rfl⟩) ?_
  exact ⟨rfl, rfl⟩
theorem w_parts (O : obS X h) : ct_E G m_ContentType_parts [.ref (X + 40)] h (cv (.ref (X + 41)) h) := by
  refine ct_of (ws' := tb_all) rfl rfl (Nat.le_of_ble_eq_true rfl) ?_
  refine ev_aload_n d_ContentType_parts_0 rfl rfl ?_
  refine ev_get (fa_ContentType_18 rfl rfl) d_ContentType_parts_1 O.2.2.2.2 rfl ?_
  refine ev_aret d_ContentType_parts_4 rfl (Or.inl ⟨_, rfl⟩) ?_
  exact ⟨rfl, rfl⟩
theorem w_byteInHand (hT : (gl_t G)[0]? = some (cI, .int)) (S : tS cI X h σ) (O : obS X h) (b i : Int32) : ct_E G m_ContentType_byteInHand [.ref (X + 40), .int b, .int i] h (pu h) := by
  have m : (60 : Nat) ∈ txs := by decide
  refine ct_of (ws' := tb_all) rfl rfl (Nat.le_of_ble_eq_true rfl) ?_
  refine ev_aload_n d_ContentType_byteInHand_0 rfl rfl ?_
  refine ev_get (fa_ContentType_38 rfl rfl) d_ContentType_byteInHand_1 O.2.2.2.2 rfl ?_
  refine ev_iload_n d_ContentType_byteInHand_4 rfl rfl ?_
  refine ev_if_eq (tgt := 12) d_ContentType_byteInHand_5 (by decide) (fun c_5 => ?_) (fun c_5 => ?_)
  · refine ev_iconst (v := 1) d_ContentType_byteInHand_12 (by decide) ?_
    refine ev_iload_n d_ContentType_byteInHand_13 rfl rfl ?_
    refine ev_Vv (ci := 3) [.int 1, .int i] [] ca_ContentType_byteInHand_82 d_ContentType_byteInHand_14 rfl ((S.2 60 m)) rfl (Nat.le_of_ble_eq_true rfl) (w_byteOf hT S m 1 i) ?_
    refine ev_iret d_ContentType_byteInHand_17 rfl ?_
    exact ⟨_, rfl, ⟨_, rfl⟩, rfl⟩
  · refine ev_iconst (v := 0) d_ContentType_byteInHand_8 (by decide) ?_
    refine ev_goto (tgt := 13) d_ContentType_byteInHand_9 (by decide) ?_
    refine ev_iload_n d_ContentType_byteInHand_13 rfl rfl ?_
    refine ev_Vv (ci := 3) [.int 0, .int i] [] ca_ContentType_byteInHand_82 d_ContentType_byteInHand_14 rfl ((S.2 60 m)) rfl (Nat.le_of_ble_eq_true rfl) (w_byteOf hT S m 0 i) ?_
    refine ev_iret d_ContentType_byteInHand_17 rfl ?_
    exact ⟨_, rfl, ⟨_, rfl⟩, rfl⟩
theorem w_parameterByte (hT : (gl_t G)[0]? = some (cI, .int)) (S : tS cI X h σ) (O : obS X h) (hX : h.2.2 X = some (ml_o X)) (b i : Int32) : ct_E G m_Mail_parameterByte [.ref X, .int b, .int i] h (pu h) := by
  refine ct_of (ws' := tb_all) rfl rfl (Nat.le_of_ble_eq_true rfl) ?_
  refine ev_aload_n d_Mail_parameterByte_0 rfl rfl ?_
  refine ev_get (fa_Mail_60 rfl rfl) d_Mail_parameterByte_1 hX rfl ?_
  refine ev_iload_n d_Mail_parameterByte_4 rfl rfl ?_
  refine ev_iload_n d_Mail_parameterByte_5 rfl rfl ?_
  refine ev_Vr (ci := 8) [.int b, .int i] [] ca_Mail_parameterByte_164 d_Mail_parameterByte_6 rfl (O.2.2.2.2) rfl (Nat.le_of_ble_eq_true rfl) (w_byteInHand hT S O b i) (fun v h1 z => ?_)
  obtain ⟨⟨x, rfl⟩, rfl⟩ := z
  refine ev_iret d_Mail_parameterByte_9 rfl ?_
  exact ⟨_, rfl, ⟨_, rfl⟩, rfl⟩
theorem w_group (hT : (gl_t G)[0]? = some (cI, .int)) (S : tS cI X h σ) (O : obS X h) (hX : h.2.2 X = some (ml_o X)) (w k : Int32) : ct_E G m_Mail_group [.ref X, .int w, .int k] h (pu h) := by
  have m : (26 : Nat) ∈ txs := by decide
  obtain ⟨-, ⟨a, b, c, O2⟩, -⟩ := id O
  refine ct_of (ws' := tb_all) rfl rfl (Nat.le_of_ble_eq_true rfl) ?_
  refine ev_iload_n d_Mail_group_0 rfl rfl ?_
  rcases tsw w (n := 3) (by decide) with z | ⟨j, hj, rfl⟩
  · refine ev_tableOut (tgt := 56) d_Mail_group_1 (by omega) (by decide) ?_
    refine ev_iconst (v := (-1)) d_Mail_group_56 (by decide) ?_
    refine ev_iret d_Mail_group_57 rfl ?_
    exact ⟨_, rfl, ⟨_, rfl⟩, rfl⟩
  · rcases (show j = 0 ∨ j = 1 ∨ j = 2 by omega) with rfl | rfl | rfl
    · refine ev_tableIn (off := 27) (tgt := 28) d_Mail_group_1 (by decide) (by decide) (by decide) (by decide) ?_
      refine ev_aload_n d_Mail_group_28 rfl rfl ?_
      refine ev_get (fa_Mail_39 rfl rfl) d_Mail_group_29 hX rfl ?_
      refine ev_Vv (ci := 5) [] [] ca_Mail_group_145 d_Mail_group_32 rfl (O2) rfl (Nat.le_of_ble_eq_true rfl) (w_gnames O) ?_
      refine ev_Vv (ci := 3) [] [] ca_Mail_group_135 d_Mail_group_35 rfl ((S.2 26 m)) rfl (Nat.le_of_ble_eq_true rfl) (c_Texts_count (tS_tx S m)) ?_
      refine ev_iret d_Mail_group_38 rfl ?_
      exact ⟨_, rfl, ⟨_, rfl⟩, rfl⟩
    · refine ev_tableIn (off := 38) (tgt := 39) d_Mail_group_1 (by decide) (by decide) (by decide) (by decide) ?_
      refine ev_aload_n d_Mail_group_39 rfl rfl ?_
      refine ev_get (fa_Mail_39 rfl rfl) d_Mail_group_40 hX rfl ?_
      refine ev_Vr (ci := 5) [] [] ca_Mail_group_148 d_Mail_group_43 rfl (O2) rfl (Nat.le_of_ble_eq_true rfl) (w_badOnes O) (fun v h1 z => ?_)
      obtain ⟨⟨x, rfl⟩, rfl⟩ := z
      refine ev_iret d_Mail_group_46 rfl ?_
      exact ⟨_, rfl, ⟨_, rfl⟩, rfl⟩
    · refine ev_tableIn (off := 46) (tgt := 47) d_Mail_group_1 (by decide) (by decide) (by decide) (by decide) ?_
      refine ev_aload_n d_Mail_group_47 rfl rfl ?_
      refine ev_get (fa_Mail_39 rfl rfl) d_Mail_group_48 hX rfl ?_
      refine ev_iload_n d_Mail_group_51 rfl rfl ?_
      refine ev_Vr (ci := 5) [.int k] [] ca_Mail_group_151 d_Mail_group_52 rfl (O2) rfl (Nat.le_of_ble_eq_true rfl) (w_groupOf hT S O k) (fun v h1 z => ?_)
      obtain ⟨⟨x, rfl⟩, rfl⟩ := z
      refine ev_iret d_Mail_group_55 rfl ?_
      exact ⟨_, rfl, ⟨_, rfl⟩, rfl⟩
theorem w_textsFor (S : tS cI X h σ) (O : obS X h) (hX : h.2.2 X = some (ml_o X)) (w : Int32) : ct_E G m_Mail_textsFor [.ref X, .int w] h (cr (fun v h' => (∃ t, t ∈ txs ∧ v = .ref (X + t)) ∧ h' = h)) := by
  obtain ⟨-, ⟨a, b, c, O2⟩, -⟩ := id O
  have a44 : ev_E G m_Mail_textsFor 44 [(0, .ref X), (1, .int w)] [] h (cr (fun v h' => (∃ t, t ∈ txs ∧ v = .ref (X + t)) ∧ h' = h)) := by
    refine ev_aload_n d_Mail_textsFor_44 rfl rfl ?_
    refine ev_get (fa_Mail_39 rfl rfl) d_Mail_textsFor_45 hX rfl ?_
    refine ev_Vv (ci := 5) [] [] ca_Mail_textsFor_175 d_Mail_textsFor_48 rfl (O2) rfl (Nat.le_of_ble_eq_true rfl) (w_atexts O) ?_
    refine ev_aret d_Mail_textsFor_51 rfl (Or.inl ⟨_, rfl⟩) ?_
    exact ⟨_, rfl, ⟨19, by decide, rfl⟩, rfl⟩
  have a68 : ev_E G m_Mail_textsFor 68 [(0, .ref X), (1, .int w)] [] h (cr (fun v h' => (∃ t, t ∈ txs ∧ v = .ref (X + t)) ∧ h' = h)) := by
    refine ev_aload_n d_Mail_textsFor_68 rfl rfl ?_
    refine ev_get (fa_Mail_60 rfl rfl) d_Mail_textsFor_69 hX rfl ?_
    refine ev_Vv (ci := 8) [] [] ca_Mail_textsFor_176 d_Mail_textsFor_72 rfl (O.2.2.2.2) rfl (Nat.le_of_ble_eq_true rfl) (w_parts O) ?_
    refine ev_aret d_Mail_textsFor_75 rfl (Or.inl ⟨_, rfl⟩) ?_
    exact ⟨_, rfl, ⟨41, by decide, rfl⟩, rfl⟩
  refine ct_of (ws' := tb_all) rfl rfl (Nat.le_of_ble_eq_true rfl) ?_
  refine ev_iload_n d_Mail_textsFor_0 rfl rfl ?_
  rcases tsw w (n := 7) (by decide) with z | ⟨j, hj, rfl⟩
  · refine ev_tableOut (tgt := 76) d_Mail_textsFor_1 (by omega) (by decide) ?_
    refine ev_aload_n d_Mail_textsFor_76 rfl rfl ?_
    refine ev_get (fa_Mail_67 rfl rfl) d_Mail_textsFor_77 hX rfl ?_
    refine ev_aret d_Mail_textsFor_80 rfl (Or.inl ⟨_, rfl⟩) ?_
    exact ⟨_, rfl, ⟨65, by decide, rfl⟩, rfl⟩
  · rcases (show j = 0 ∨ j = 1 ∨ j = 2 ∨ j = 3 ∨ j = 4 ∨ j = 5 ∨ j = 6 by omega) with rfl | rfl | rfl | rfl | rfl | rfl | rfl
    · exact ev_tableIn (off := 43) (tgt := 44) d_Mail_textsFor_1 (by decide) (by decide) (by decide) (by decide) a44
    · exact ev_tableIn (off := 43) (tgt := 44) d_Mail_textsFor_1 (by decide) (by decide) (by decide) (by decide) a44
    · exact ev_tableIn (off := 43) (tgt := 44) d_Mail_textsFor_1 (by decide) (by decide) (by decide) (by decide) a44
    · refine ev_tableIn (off := 51) (tgt := 52) d_Mail_textsFor_1 (by decide) (by decide) (by decide) (by decide) ?_
      refine ev_aload_n d_Mail_textsFor_52 rfl rfl ?_
      refine ev_get (fa_Mail_39 rfl rfl) d_Mail_textsFor_53 hX rfl ?_
      refine ev_Vv (ci := 5) [] [] ca_Mail_textsFor_145 d_Mail_textsFor_56 rfl (O2) rfl (Nat.le_of_ble_eq_true rfl) (w_gnames O) ?_
      refine ev_aret d_Mail_textsFor_59 rfl (Or.inl ⟨_, rfl⟩) ?_
      exact ⟨_, rfl, ⟨26, by decide, rfl⟩, rfl⟩
    · refine ev_tableIn (off := 59) (tgt := 60) d_Mail_textsFor_1 (by decide) (by decide) (by decide) (by decide) ?_
      refine ev_aload_n d_Mail_textsFor_60 rfl rfl ?_
      refine ev_get (fa_Mail_46 rfl rfl) d_Mail_textsFor_61 hX rfl ?_
      refine ev_Vv (ci := 6) [] [] ca_Mail_textsFor_134 d_Mail_textsFor_64 rfl (O.2.2.1) rfl (Nat.le_of_ble_eq_true rfl) (w_itexts O) ?_
      refine ev_aret d_Mail_textsFor_67 rfl (Or.inl ⟨_, rfl⟩) ?_
      exact ⟨_, rfl, ⟨34, by decide, rfl⟩, rfl⟩
    · exact ev_tableIn (off := 67) (tgt := 68) d_Mail_textsFor_1 (by decide) (by decide) (by decide) (by decide) a68
    · exact ev_tableIn (off := 67) (tgt := 68) d_Mail_textsFor_1 (by decide) (by decide) (by decide) (by decide) a68
theorem w_textFor (S : tS cI X h σ) (O : obS X h) (hX : h.2.2 X = some (ml_o X)) (w k : Int32) : ct_E G m_Mail_textFor [.ref X, .int w, .int k] h (pu h) := by
  obtain ⟨-, ⟨a, b, c, O2⟩, -⟩ := id O
  have a66 : ev_E G m_Mail_textFor 66 [(0, .ref X), (1, .int w), (2, .int k)] [] h (pu h) := by
    refine ev_iload_n d_Mail_textFor_66 rfl rfl ?_
    refine ev_iret d_Mail_textFor_67 rfl ?_
    exact ⟨_, rfl, ⟨_, rfl⟩, rfl⟩
  have a44 : ev_E G m_Mail_textFor 44 [(0, .ref X), (1, .int w), (2, .int k)] [] h (pu h) := by
    refine ev_aload_n d_Mail_textFor_44 rfl rfl ?_
    refine ev_get (fa_Mail_39 rfl rfl) d_Mail_textFor_45 hX rfl ?_
    refine ev_iload_n d_Mail_textFor_48 rfl rfl ?_
    refine ev_iload_n d_Mail_textFor_49 rfl rfl ?_
    refine ev_Vr (ci := 5) [.int k, .int w] [] ca_Mail_textFor_179 d_Mail_textFor_50 rfl (O2) rfl (Nat.le_of_ble_eq_true rfl) (w_atextOf S O k w) (fun v h1 z => ?_)
    obtain ⟨⟨x, rfl⟩, rfl⟩ := z
    refine ev_iret d_Mail_textFor_53 rfl ?_
    exact ⟨_, rfl, ⟨_, rfl⟩, rfl⟩
  have a54 : ev_E G m_Mail_textFor 54 [(0, .ref X), (1, .int w), (2, .int k)] [] h (pu h) := by
    refine ev_iload_n d_Mail_textFor_54 rfl rfl ?_
    refine ev_if_ne (tgt := 64) d_Mail_textFor_55 (by decide) (fun c_55 => ?_) (fun c_55 => ?_)
    · refine ev_iconst (v := (-1)) d_Mail_textFor_64 (by decide) ?_
      refine ev_iret d_Mail_textFor_65 rfl ?_
      exact ⟨_, rfl, ⟨_, rfl⟩, rfl⟩
    · refine ev_iload_n d_Mail_textFor_58 rfl rfl ?_
      refine ev_iconst (v := 5) d_Mail_textFor_59 (by decide) ?_
      refine ev_isub d_Mail_textFor_60 ?_
      refine ev_goto (tgt := 65) d_Mail_textFor_61 (by decide) ?_
      refine ev_iret d_Mail_textFor_65 rfl ?_
      exact ⟨_, rfl, ⟨_, rfl⟩, rfl⟩
  refine ct_of (ws' := tb_all) rfl rfl (Nat.le_of_ble_eq_true rfl) ?_
  refine ev_iload_n d_Mail_textFor_0 rfl rfl ?_
  rcases tsw w (n := 7) (by decide) with z | ⟨j, hj, rfl⟩
  · exact ev_tableOut (tgt := 66) d_Mail_textFor_1 (by omega) (by decide) a66
  · rcases (show j = 0 ∨ j = 1 ∨ j = 2 ∨ j = 3 ∨ j = 4 ∨ j = 5 ∨ j = 6 by omega) with rfl | rfl | rfl | rfl | rfl | rfl | rfl
    · exact ev_tableIn (off := 43) (tgt := 44) d_Mail_textFor_1 (by decide) (by decide) (by decide) (by decide) a44
    · exact ev_tableIn (off := 43) (tgt := 44) d_Mail_textFor_1 (by decide) (by decide) (by decide) (by decide) a44
    · exact ev_tableIn (off := 43) (tgt := 44) d_Mail_textFor_1 (by decide) (by decide) (by decide) (by decide) a44
    · exact ev_tableIn (off := 65) (tgt := 66) d_Mail_textFor_1 (by decide) (by decide) (by decide) (by decide) a66
    · exact ev_tableIn (off := 65) (tgt := 66) d_Mail_textFor_1 (by decide) (by decide) (by decide) (by decide) a66
    · exact ev_tableIn (off := 53) (tgt := 54) d_Mail_textFor_1 (by decide) (by decide) (by decide) (by decide) a54
    · exact ev_tableIn (off := 53) (tgt := 54) d_Mail_textFor_1 (by decide) (by decide) (by decide) (by decide) a54
theorem w_length (hT : (gl_t G)[0]? = some (cI, .int)) (S : tS cI X h σ) (O : obS X h) (hX : h.2.2 X = some (ml_o X)) (w k : Int32) : ct_E G m_Mail_length [.ref X, .int w, .int k] h (pu h) := by
  refine ct_of (ws' := tb_all) rfl rfl (Nat.le_of_ble_eq_true rfl) ?_
  refine ev_aload_n d_Mail_length_0 rfl rfl ?_
  refine ev_iload_n d_Mail_length_1 rfl rfl ?_
  refine ev_Vr (ci := 0) [.int w] [] ca_Mail_length_154 d_Mail_length_2 rfl (hX) rfl (Nat.le_of_ble_eq_true rfl) (w_textsFor S O hX w) (fun v h1 z => ?_)
  obtain ⟨⟨t, ht, rfl⟩, rfl⟩ := z
  refine ev_aload_n d_Mail_length_5 rfl rfl ?_
  refine ev_iload_n d_Mail_length_6 rfl rfl ?_
  refine ev_iload_n d_Mail_length_7 rfl rfl ?_
  refine ev_Vr (ci := 0) [.int w, .int k] [.ref (X + t)] ca_Mail_length_158 d_Mail_length_8 rfl (hX) rfl (Nat.le_of_ble_eq_true rfl) (w_textFor S O hX w k) (fun v h1 z => ?_)
  obtain ⟨⟨x, rfl⟩, rfl⟩ := z
  refine ev_Vv (ci := 3) [.int x] [] ca_Mail_length_110 d_Mail_length_11 rfl ((S.2 t ht)) rfl (Nat.le_of_ble_eq_true rfl) (w_sizeOf hT S ht x) ?_
  refine ev_iret d_Mail_length_14 rfl ?_
  exact ⟨_, rfl, ⟨_, rfl⟩, rfl⟩
theorem w_at (hT : (gl_t G)[0]? = some (cI, .int)) (S : tS cI X h σ) (O : obS X h) (hX : h.2.2 X = some (ml_o X)) (w k i : Int32) : ct_E G m_Mail_at [.ref X, .int w, .int k, .int i] h (pu h) := by
  refine ct_of (ws' := tb_all) rfl rfl (Nat.le_of_ble_eq_true rfl) ?_
  refine ev_aload_n d_Mail_at_0 rfl rfl ?_
  refine ev_iload_n d_Mail_at_1 rfl rfl ?_
  refine ev_Vr (ci := 0) [.int w] [] ca_Mail_at_154 d_Mail_at_2 rfl (hX) rfl (Nat.le_of_ble_eq_true rfl) (w_textsFor S O hX w) (fun v h1 z => ?_)
  obtain ⟨⟨t, ht, rfl⟩, rfl⟩ := z
  refine ev_aload_n d_Mail_at_5 rfl rfl ?_
  refine ev_iload_n d_Mail_at_6 rfl rfl ?_
  refine ev_iload_n d_Mail_at_7 rfl rfl ?_
  refine ev_Vr (ci := 0) [.int w, .int k] [.ref (X + t)] ca_Mail_at_158 d_Mail_at_8 rfl (hX) rfl (Nat.le_of_ble_eq_true rfl) (w_textFor S O hX w k) (fun v h1 z => ?_)
  obtain ⟨⟨x, rfl⟩, rfl⟩ := z
  refine ev_iload_n d_Mail_at_11 rfl rfl ?_
  refine ev_Vv (ci := 3) [.int x, .int i] [] ca_Mail_at_114 d_Mail_at_12 rfl ((S.2 t ht)) rfl (Nat.le_of_ble_eq_true rfl) (w_byteOf hT S ht x i) ?_
  refine ev_iret d_Mail_at_15 rfl ?_
  exact ⟨_, rfl, ⟨_, rfl⟩, rfl⟩
end PURE
