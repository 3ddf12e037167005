section FCALLS2
variable {G : gl_G} {cI : ClassId} {str : Nat} {h : hp_T} {X : Nat}
theorem tsw (w : Int32) {n : Nat} (hn : n < 2 ^ 31) : (w.toInt < 0 ∨ (n : Int) ≤ w.toInt) ∨ ∃ j : Nat, j < n ∧ w = nI j := by
  rcases pk_ix w hn with z | z | z
  · exact Or.inl (Or.inl (by have := Int32.lt_iff_toInt_lt.mp z; exact this))
  · refine Or.inl (Or.inr ?_)
    have := Int32.le_iff_toInt_le.mp z
    rw [nI_toInt hn] at this
    exact this
  · exact Or.inr z
theorem f_atexts (F : fr cI str X h) : ct_E G m_Addresses_texts [.ref (X + 18)] h (cv (.ref (X + 19)) h) := by
  refine ct_of (ws' := tb_all) rfl rfl (Nat.le_of_ble_eq_true rfl) ?_
  refine ev_aload_n d_Addresses_texts_0 rfl rfl ?_
  refine ev_get (fa_Addresses_18 rfl rfl) d_Addresses_texts_1 (fr_adr F) rfl ?_
  refine ev_aret d_Addresses_texts_4 rfl (Or.inl ⟨_, rfl⟩) ?_
  exact ⟨rfl, rfl⟩
theorem f_gnames (F : fr cI str X h) : ct_E G m_Addresses_groupNames [.ref (X + 18)] h (cv (.ref (X + 26)) h) := by
  refine ct_of (ws' := tb_all) rfl rfl (Nat.le_of_ble_eq_true rfl) ?_
  refine ev_aload_n d_Addresses_groupNames_0 rfl rfl ?_
  refine ev_get (fa_Addresses_29 rfl rfl) d_Addresses_groupNames_1 (fr_adr F) rfl ?_
  refine ev_aret d_Addresses_groupNames_4 rfl (Or.inl ⟨_, rfl⟩) ?_
  exact ⟨rfl, rfl⟩
theorem f_itexts (F : fr cI str X h) : ct_E G m_Identities_texts [.ref (X + 33)] h (cv (.ref (X + 34)) h) := by
  refine ct_of (ws' := tb_all) rfl rfl (Nat.le_of_ble_eq_true rfl) ?_
  refine ev_aload_n d_Identities_texts_0 rfl rfl ?_
  refine ev_get (fa_Identities_12 rfl rfl) d_Identities_texts_1 (fr_idn F) rfl ?_
  refine ev_aret d_Identities_texts_4 rfl (Or.inl ⟨_, rfl⟩) ?_
  exact ⟨rfl, rfl⟩
theorem f_parts (F : fr cI str X h) : ct_E G m_ContentType_parts [.ref (X + 40)] h (cv (.ref (X + 41)) h) := by
  refine ct_of (ws' := tb_all) rfl rfl (Nat.le_of_ble_eq_true rfl) ?_
  refine ev_aload_n d_ContentType_parts_0 rfl rfl ?_
  refine ev_get (fa_ContentType_18 rfl rfl) d_ContentType_parts_1 (fr_ctt F) rfl ?_
  refine ev_aret d_ContentType_parts_4 rfl (Or.inl ⟨_, rfl⟩) ?_
  exact ⟨rfl, rfl⟩
theorem f_badOnes (F : fr cI str X h) : ct_E G m_Addresses_badOnes [.ref (X + 18)] h (cv (.int 0) h) := by
  refine ct_of (ws' := tb_all) rfl rfl (Nat.le_of_ble_eq_true rfl) ?_
  refine ev_aload_n d_Addresses_badOnes_0 rfl rfl ?_
  refine ev_get (fa_Addresses_35 rfl rfl) d_Addresses_badOnes_1 (fr_adr F) rfl ?_
  refine ev_iret d_Addresses_badOnes_4 rfl ?_
  exact ⟨rfl, rfl⟩
theorem f_acount (F : fr cI str X h) : ct_E G m_Addresses_count [.ref (X + 18)] h (cv (.int 0) h) := by
  refine ct_of (ws' := tb_all) rfl rfl (Nat.le_of_ble_eq_true rfl) ?_
  refine ev_aload_n d_Addresses_count_0 rfl rfl ?_
  refine ev_get (fa_Addresses_25 rfl rfl) d_Addresses_count_1 (fr_adr F) rfl ?_
  refine ev_Vv (ci := 1) [] [] ca_Addresses_count_45 d_Addresses_count_4 rfl ((fr_grp F).1) rfl (Nat.le_of_ble_eq_true rfl) (c_Row_size (x := .null) (fr_grp F).1) ?_
  refine ev_iret d_Addresses_count_7 rfl ?_
  exact ⟨rfl, rfl⟩
theorem f_groupOf (hT : (gl_t G)[0]? = some (cI, .int)) (F : fr cI str X h) (k : Int32) : ct_E G m_Addresses_groupOf [.ref (X + 18), .int k] h (cv (.int (rg [] k)) h) := by
  refine ct_of (ws' := tb_all) rfl rfl (Nat.le_of_ble_eq_true rfl) ?_
  refine ev_aload_n d_Addresses_groupOf_0 rfl rfl ?_
  refine ev_get (fa_Addresses_25 rfl rfl) d_Addresses_groupOf_1 (fr_adr F) rfl ?_
  refine ev_iload_n d_Addresses_groupOf_4 rfl rfl ?_
  refine ev_Vv (ci := 1) [.int k] [] ca_Addresses_groupOf_49 d_Addresses_groupOf_5 rfl ((fr_grp F).1) rfl (Nat.le_of_ble_eq_true rfl) (c_Row_get hT (fr_grp F) k) ?_
  refine ev_iret d_Addresses_groupOf_8 rfl ?_
  exact ⟨rfl, rfl⟩
theorem f_atextOf (F : fr cI str X h) (k w : Int32) : ct_E G m_Addresses_textOf [.ref (X + 18), .int k, .int w] h (cv (.int (-1)) h) := by
  refine ct_of (ws' := tb_all) rfl rfl (Nat.le_of_ble_eq_true rfl) ?_
  refine ev_iload_n d_Addresses_textOf_0 rfl rfl ?_
  refine ev_if_lt (tgt := 20) d_Addresses_textOf_1 (by decide) (fun c_1 => ?_) (fun c_1 => ?_)
  · refine ev_iconst (v := (-1)) d_Addresses_textOf_20 (by decide) ?_
    refine ev_iret d_Addresses_textOf_21 rfl ?_
    exact ⟨rfl, rfl⟩
  · refine ev_iload_n d_Addresses_textOf_4 rfl rfl ?_
    refine ev_aload_n d_Addresses_textOf_5 rfl rfl ?_
    refine ev_Vv (ci := 5) [] [.int k] ca_Addresses_textOf_53 d_Addresses_textOf_6 rfl ((fr_adr F)) rfl (Nat.le_of_ble_eq_true rfl) (f_acount F) ?_
    refine ev_icmp_ge (tgt := 20) d_Addresses_textOf_9 (by decide) (fun _ => ?_) (fun z => absurd (Int32.not_lt.mp c_1) z)
    refine ev_iconst (v := (-1)) d_Addresses_textOf_20 (by decide) ?_
    refine ev_iret d_Addresses_textOf_21 rfl ?_
    exact ⟨rfl, rfl⟩
theorem f_group (hT : (gl_t G)[0]? = some (cI, .int)) (F : fr cI str X h) (w k : Int32) : ct_E G m_Mail_group [.ref X, .int w, .int k] h (cv (.int (if w = 0 then 0 else if w = 1 then 0 else if w = 2 then rg [] k else -1)) h) := by
  refine ct_of (ws' := tb_all) rfl rfl (Nat.le_of_ble_eq_true rfl) ?_
  refine ev_iload_n d_Mail_group_0 rfl rfl ?_
  rcases tsw w (n := 3) (by decide) with z | ⟨j, hj, rfl⟩
  · refine ev_tableOut (tgt := 56) d_Mail_group_1 (by omega) (by decide) ?_
    refine ev_iconst (v := (-1)) d_Mail_group_56 (by decide) ?_
    refine ev_iret d_Mail_group_57 rfl ?_
    rw [if_neg (fun q => by rw [q] at z; revert z; decide), if_neg (fun q => by rw [q] at z; revert z; decide), if_neg (fun q => by rw [q] at z; revert z; decide)]
    exact ⟨rfl, rfl⟩
  · have hj3 : j = 0 ∨ j = 1 ∨ j = 2 := by omega
    rcases hj3 with rfl | rfl | rfl
    · refine ev_tableIn (off := 27) (tgt := 28) d_Mail_group_1 (by decide) (by decide) (by decide) (by decide) ?_
      refine ev_aload_n d_Mail_group_28 rfl rfl ?_
      refine ev_get (fa_Mail_39 rfl rfl) d_Mail_group_29 (fr_X F) rfl ?_
      refine ev_Vv (ci := 5) [] [] ca_Mail_group_145 d_Mail_group_32 rfl ((fr_adr F)) rfl (Nat.le_of_ble_eq_true rfl) (f_gnames F) ?_
      refine ev_Vv (ci := 3) [] [] ca_Mail_group_135 d_Mail_group_35 rfl ((fr_gtx F).1) rfl (Nat.le_of_ble_eq_true rfl) (c_Texts_count (fr_gtx F)) ?_
      refine ev_iret d_Mail_group_38 rfl ?_
      exact ⟨rfl, rfl⟩
    · refine ev_tableIn (off := 38) (tgt := 39) d_Mail_group_1 (by decide) (by decide) (by decide) (by decide) ?_
      refine ev_aload_n d_Mail_group_39 rfl rfl ?_
      refine ev_get (fa_Mail_39 rfl rfl) d_Mail_group_40 (fr_X F) rfl ?_
      refine ev_Vv (ci := 5) [] [] ca_Mail_group_148 d_Mail_group_43 rfl ((fr_adr F)) rfl (Nat.le_of_ble_eq_true rfl) (f_badOnes F) ?_
      refine ev_iret d_Mail_group_46 rfl ?_
      exact ⟨rfl, rfl⟩
    · refine ev_tableIn (off := 46) (tgt := 47) d_Mail_group_1 (by decide) (by decide) (by decide) (by decide) ?_
      refine ev_aload_n d_Mail_group_47 rfl rfl ?_
      refine ev_get (fa_Mail_39 rfl rfl) d_Mail_group_48 (fr_X F) rfl ?_
      refine ev_iload_n d_Mail_group_51 rfl rfl ?_
      refine ev_Vv (ci := 5) [.int k] [] ca_Mail_group_151 d_Mail_group_52 rfl ((fr_adr F)) rfl (Nat.le_of_ble_eq_true rfl) (f_groupOf hT F k) ?_
      refine ev_iret d_Mail_group_55 rfl ?_
      exact ⟨rfl, rfl⟩
theorem f_textsFor (F : fr cI str X h) (w : Int32) : ct_E G m_Mail_textsFor [.ref X, .int w] h (cr fun v h' => h' = h ∧ ∃ t rb cb rx cx, v = .ref t ∧ tx_at cI h t rb cb 16 [] rx cx 16 [0]) := by
  refine ct_of (ws' := tb_all) rfl rfl (Nat.le_of_ble_eq_true rfl) ?_
  have a44 : ∀ lv, lq_at lv 0 = some (.ref X) → ev_E G m_Mail_textsFor 44 lv [] h (cr fun v h' => h' = h ∧ ∃ t rb cb rx cx, v = .ref t ∧ tx_at cI h t rb cb 16 [] rx cx 16 [0]) := fun lv hl => by
    refine ev_aload_n d_Mail_textsFor_44 rfl hl ?_
    refine ev_get (fa_Mail_39 rfl rfl) d_Mail_textsFor_45 (fr_X F) rfl ?_
    refine ev_Vv (ci := 5) [] [] ca_Mail_textsFor_175 d_Mail_textsFor_48 rfl ((fr_adr F)) rfl (Nat.le_of_ble_eq_true rfl) (f_atexts F) ?_
    refine ev_aret d_Mail_textsFor_51 rfl (Or.inl ⟨_, rfl⟩) ?_
    exact ⟨_, rfl, rfl, _, _, _, _, _, rfl, fr_atx F⟩
  have a68 : ∀ lv, lq_at lv 0 = some (.ref X) → ev_E G m_Mail_textsFor 68 lv [] h (cr fun v h' => h' = h ∧ ∃ t rb cb rx cx, v = .ref t ∧ tx_at cI h t rb cb 16 [] rx cx 16 [0]) := fun lv hl => by
    refine ev_aload_n d_Mail_textsFor_68 rfl hl ?_
    refine ev_get (fa_Mail_60 rfl rfl) d_Mail_textsFor_69 (fr_X F) rfl ?_
    refine ev_Vv (ci := 8) [] [] ca_Mail_textsFor_176 d_Mail_textsFor_72 rfl ((fr_ctt F)) rfl (Nat.le_of_ble_eq_true rfl) (f_parts F) ?_
    refine ev_aret d_Mail_textsFor_75 rfl (Or.inl ⟨_, rfl⟩) ?_
    exact ⟨_, rfl, rfl, _, _, _, _, _, rfl, fr_ptx F⟩
  refine ev_iload_n d_Mail_textsFor_0 rfl rfl ?_
  rcases tsw w (n := 7) (by decide) with z | ⟨j, hj, rfl⟩
  · refine ev_tableOut (tgt := 76) d_Mail_textsFor_1 (by omega) (by decide) ?_
    refine ev_aload_n d_Mail_textsFor_76 rfl rfl ?_
    refine ev_get (fa_Mail_67 rfl rfl) d_Mail_textsFor_77 (fr_X F) rfl ?_
    refine ev_aret d_Mail_textsFor_80 rfl (Or.inl ⟨_, rfl⟩) ?_
    exact ⟨_, rfl, rfl, _, _, _, _, _, rfl, fr_nth F⟩
  · have hj3 : j = 0 ∨ j = 1 ∨ j = 2 ∨ j = 3 ∨ j = 4 ∨ j = 5 ∨ j = 6 := by omega
    rcases hj3 with rfl | rfl | rfl | rfl | rfl | rfl | rfl
    · exact ev_tableIn (off := 43) (tgt := 44) d_Mail_textsFor_1 (by decide) (by decide) (by decide) (by decide) (a44 _ rfl)
    · exact ev_tableIn (off := 43) (tgt := 44) d_Mail_textsFor_1 (by decide) (by decide) (by decide) (by decide) (a44 _ rfl)
    · exact ev_tableIn (off := 43) (tgt := 44) d_Mail_textsFor_1 (by decide) (by decide) (by decide) (by decide) (a44 _ rfl)
    · refine ev_tableIn (off := 51) (tgt := 52) d_Mail_textsFor_1 (by decide) (by decide) (by decide) (by decide) ?_
      refine ev_aload_n d_Mail_textsFor_52 rfl rfl ?_
      refine ev_get (fa_Mail_39 rfl rfl) d_Mail_textsFor_53 (fr_X F) rfl ?_
      refine ev_Vv (ci := 5) [] [] ca_Mail_textsFor_145 d_Mail_textsFor_56 rfl ((fr_adr F)) rfl (Nat.le_of_ble_eq_true rfl) (f_gnames F) ?_
      refine ev_aret d_Mail_textsFor_59 rfl (Or.inl ⟨_, rfl⟩) ?_
      exact ⟨_, rfl, rfl, _, _, _, _, _, rfl, fr_gtx F⟩
    · refine ev_tableIn (off := 59) (tgt := 60) d_Mail_textsFor_1 (by decide) (by decide) (by decide) (by decide) ?_
      refine ev_aload_n d_Mail_textsFor_60 rfl rfl ?_
      refine ev_get (fa_Mail_46 rfl rfl) d_Mail_textsFor_61 (fr_X F) rfl ?_
      refine ev_Vv (ci := 6) [] [] ca_Mail_textsFor_134 d_Mail_textsFor_64 rfl ((fr_idn F)) rfl (Nat.le_of_ble_eq_true rfl) (f_itexts F) ?_
      refine ev_aret d_Mail_textsFor_67 rfl (Or.inl ⟨_, rfl⟩) ?_
      exact ⟨_, rfl, rfl, _, _, _, _, _, rfl, fr_itx F⟩
    · exact ev_tableIn (off := 67) (tgt := 68) d_Mail_textsFor_1 (by decide) (by decide) (by decide) (by decide) (a68 _ rfl)
    · exact ev_tableIn (off := 67) (tgt := 68) d_Mail_textsFor_1 (by decide) (by decide) (by decide) (by decide) (a68 _ rfl)
theorem f_textFor (F : fr cI str X h) (w k : Int32) : ct_E G m_Mail_textFor [.ref X, .int w, .int k] h (cr fun v h' => h' = h ∧ ∃ i : Int32, v = .int i) := by
  refine ct_of (ws' := tb_all) rfl rfl (Nat.le_of_ble_eq_true rfl) ?_
  have a44 : ev_E G m_Mail_textFor 44 (lv_args 0 [.ref X, .int w, .int k]) [] h (cr fun v h' => h' = h ∧ ∃ i : Int32, v = .int i) := by
    refine ev_aload_n d_Mail_textFor_44 rfl rfl ?_
    refine ev_get (fa_Mail_39 rfl rfl) d_Mail_textFor_45 (fr_X F) rfl ?_
    refine ev_iload_n d_Mail_textFor_48 rfl rfl ?_
    refine ev_iload_n d_Mail_textFor_49 rfl rfl ?_
    refine ev_Vv (ci := 5) [.int k, .int w] [] ca_Mail_textFor_179 d_Mail_textFor_50 rfl ((fr_adr F)) rfl (Nat.le_of_ble_eq_true rfl) (f_atextOf F k w) ?_
    refine ev_iret d_Mail_textFor_53 rfl ?_
    exact ⟨_, rfl, rfl, _, rfl⟩
  have a54 : ev_E G m_Mail_textFor 54 (lv_args 0 [.ref X, .int w, .int k]) [] h (cr fun v h' => h' = h ∧ ∃ i : Int32, v = .int i) := by
    refine ev_iload_n d_Mail_textFor_54 rfl rfl ?_
    refine ev_if_ne (tgt := 64) d_Mail_textFor_55 (by decide) (fun c_55 => ?_) (fun c_55 => ?_)
    · refine ev_iconst (v := (-1)) d_Mail_textFor_64 (by decide) ?_
      refine ev_iret d_Mail_textFor_65 rfl ?_
      exact ⟨_, rfl, rfl, _, rfl⟩
    · refine ev_iload_n d_Mail_textFor_58 rfl rfl ?_
      refine ev_iconst (v := 5) d_Mail_textFor_59 (by decide) ?_
      refine ev_isub d_Mail_textFor_60 ?_
      refine ev_goto (tgt := 65) d_Mail_textFor_61 (by decide) ?_
      refine ev_iret d_Mail_textFor_65 rfl ?_
      exact ⟨_, rfl, rfl, _, rfl⟩
  have a66 : ev_E G m_Mail_textFor 66 (lv_args 0 [.ref X, .int w, .int k]) [] h (cr fun v h' => h' = h ∧ ∃ i : Int32, v = .int i) := by
    refine ev_iload_n d_Mail_textFor_66 rfl rfl ?_
    refine ev_iret d_Mail_textFor_67 rfl ?_
    exact ⟨_, rfl, rfl, _, rfl⟩
  refine ev_iload_n d_Mail_textFor_0 rfl rfl ?_
  rcases tsw w (n := 7) (by decide) with z | ⟨j, hj, rfl⟩
  · exact ev_tableOut (tgt := 66) d_Mail_textFor_1 (by omega) (by decide) a66
  · have hj3 : j = 0 ∨ j = 1 ∨ j = 2 ∨ j = 3 ∨ j = 4 ∨ j = 5 ∨ j = 6 := by omega
    rcases hj3 with rfl | rfl | rfl | rfl | rfl | rfl | rfl
    · exact ev_tableIn (off := 43) (tgt := 44) d_Mail_textFor_1 (by decide) (by decide) (by decide) (by decide) a44
    · exact ev_tableIn (off := 43) (tgt := 44) d_Mail_textFor_1 (by decide) (by decide) (by decide) (by decide) a44
    · exact ev_tableIn (off := 43) (tgt := 44) d_Mail_textFor_1 (by decide) (by decide) (by decide) (by decide) a44
    · exact ev_tableIn (off := 65) (tgt := 66) d_Mail_textFor_1 (by decide) (by decide) (by decide) (by decide) a66
    · exact ev_tableIn (off := 65) (tgt := 66) d_Mail_textFor_1 (by decide) (by decide) (by decide) (by decide) a66
    · exact ev_tableIn (off := 53) (tgt := 54) d_Mail_textFor_1 (by decide) (by decide) (by decide) (by decide) a54
    · exact ev_tableIn (off := 53) (tgt := 54) d_Mail_textFor_1 (by decide) (by decide) (by decide) (by decide) a54
theorem f_length (hT : (gl_t G)[0]? = some (cI, .int)) (F : fr cI str X h) (w k : Int32) : ct_E G m_Mail_length [.ref X, .int w, .int k] h (cv (.int (-1)) h) := by
  refine ct_of (ws' := tb_all) rfl rfl (Nat.le_of_ble_eq_true rfl) ?_
  refine ev_aload_n d_Mail_length_0 rfl rfl ?_
  refine ev_iload_n d_Mail_length_1 rfl rfl ?_
  refine ev_Vr (ci := 0) [.int w] [] ca_Mail_length_154 d_Mail_length_2 rfl ((fr_X F)) rfl (Nat.le_of_ble_eq_true rfl) (f_textsFor F w) (fun v h1 z => ?_)
  obtain ⟨rfl, t, rb, cb, rx, cx, rfl, hx⟩ := z
  refine ev_aload_n d_Mail_length_5 rfl rfl ?_
  refine ev_iload_n d_Mail_length_6 rfl rfl ?_
  refine ev_iload_n d_Mail_length_7 rfl rfl ?_
  refine ev_Vr (ci := 0) [.int w, .int k] [.ref t] ca_Mail_length_158 d_Mail_length_8 rfl ((fr_X F)) rfl (Nat.le_of_ble_eq_true rfl) (f_textFor F w k) (fun v h1 z => ?_)
  obtain ⟨rfl, i, rfl⟩ := z
  refine ev_Vv (ci := 3) [.int i] [] ca_Mail_length_110 d_Mail_length_11 rfl (hx.1) rfl (Nat.le_of_ble_eq_true rfl) (c_Texts_sizeOf hT hx i) ?_
  refine ev_iret d_Mail_length_14 rfl ?_
  exact ⟨by rw [szO_0], rfl⟩
theorem f_at (hT : (gl_t G)[0]? = some (cI, .int)) (F : fr cI str X h) (w k i : Int32) : ct_E G m_Mail_at [.ref X, .int w, .int k, .int i] h (cv (.int (-1)) h) := by
  refine ct_of (ws' := tb_all) rfl rfl (Nat.le_of_ble_eq_true rfl) ?_
  refine ev_aload_n d_Mail_at_0 rfl rfl ?_
  refine ev_iload_n d_Mail_at_1 rfl rfl ?_
  refine ev_Vr (ci := 0) [.int w] [] ca_Mail_at_154 d_Mail_at_2 rfl ((fr_X F)) rfl (Nat.le_of_ble_eq_true rfl) (f_textsFor F w) (fun v h1 z => ?_)
  obtain ⟨rfl, t, rb, cb, rx, cx, rfl, hx⟩ := z
  refine ev_aload_n d_Mail_at_5 rfl rfl ?_
  refine ev_iload_n d_Mail_at_6 rfl rfl ?_
  refine ev_iload_n d_Mail_at_7 rfl rfl ?_
  refine ev_Vr (ci := 0) [.int w, .int k] [.ref t] ca_Mail_at_158 d_Mail_at_8 rfl ((fr_X F)) rfl (Nat.le_of_ble_eq_true rfl) (f_textFor F w k) (fun v h1 z => ?_)
  obtain ⟨rfl, j, rfl⟩ := z
  refine ev_iload_n d_Mail_at_11 rfl rfl ?_
  refine ev_Vv (ci := 3) [.int j, .int i] [] ca_Mail_at_114 d_Mail_at_12 rfl (hx.1) rfl (Nat.le_of_ble_eq_true rfl) (c_Texts_byteOf hT hx j i) ?_
  refine ev_iret d_Mail_at_15 rfl ?_
  exact ⟨by rw [btO_0], rfl⟩
end FCALLS2
