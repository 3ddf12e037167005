section FCALLS
variable {G : gl_G} {cI : ClassId} {str : Nat} {h : hp_T} {X : Nat}
theorem hp_up_same {h : hp_T} {a : Nat} {e : va_E} (he : h.2.2 a = some e) : hp_up h a e = h := by
  unfold hp_up
  obtain ⟨n, s, c⟩ := h
  congr 2
  funext q
  by_cases hq : q = a
  · subst hq
    rw [if_pos rfl]
    exact he.symm
  · rw [if_neg hq]
theorem f_badLines {a : Nat} {v1 v3 : Value} {n : Int32} (hA : h.2.2 a = some (.inr (2, [v1, .int n, v3]))) : ct_E G m_Head_badLines [.ref a] h (cv (.int n) h) := by
  refine ct_of (ws' := tb_all) rfl rfl (Nat.le_of_ble_eq_true rfl) ?_
  refine ev_aload_n d_Head_badLines_0 rfl rfl ?_
  refine ev_get (fa_Head_18 rfl rfl) d_Head_badLines_1 hA rfl ?_
  refine ev_iret d_Head_badLines_4 rfl ?_
  exact ⟨rfl, rfl⟩
theorem f_bad (F : fr cI str X h) : ct_E G m_Mail_bad [.ref X] h (cv (.int 0) h) := by
  refine ct_of (ws' := tb_all) rfl rfl (Nat.le_of_ble_eq_true rfl) ?_
  refine ev_aload_n d_Mail_bad_0 rfl rfl ?_
  refine ev_get (fa_Mail_23 rfl rfl) d_Mail_bad_1 (fr_X F) rfl ?_
  refine ev_Vv (ci := 2) [] [] ca_Mail_bad_95 d_Mail_bad_4 rfl ((fr_head F)) rfl (Nat.le_of_ble_eq_true rfl) (f_badLines (fr_head F)) ?_
  refine ev_iret d_Mail_bad_7 rfl ?_
  exact ⟨rfl, rfl⟩
theorem f_count (F : fr cI str X h) : ct_E G m_Head_count [.ref (X + 4)] h (cv (.int 0) h) := ct_of_cp (p_Head_count (fr_head F) (fr_htx F))
theorem f_firstNamed (F : fr cI str X h) (r : Nat) : ct_E G m_Head_firstNamed [.ref (X + 4), .ref r] h (cv (.int (-1)) h) := by
  refine ct_of (ws' := tb_all) rfl rfl (Nat.le_of_ble_eq_true rfl) ?_
  refine ev_iconst (v := 0) d_Head_firstNamed_0 (by decide) ?_
  refine ev_istore_n d_Head_firstNamed_1 rfl (by decide) ?_
  refine ev_iload_n d_Head_firstNamed_2 rfl rfl ?_
  refine ev_aload_n d_Head_firstNamed_3 rfl rfl ?_
  refine ev_Vv (ci := 2) [] [.int 0] ca_Head_firstNamed_30 d_Head_firstNamed_4 rfl ((fr_head F)) rfl (Nat.le_of_ble_eq_true rfl) (f_count F) ?_
  refine ev_icmp_ge (tgt := 32) d_Head_firstNamed_7 (by decide) (fun _ => ?_) (fun z => absurd (by decide) z)
  refine ev_iconst (v := (-1)) d_Head_firstNamed_32 (by decide) ?_
  refine ev_iret d_Head_firstNamed_33 rfl ?_
  exact ⟨rfl, rfl⟩
theorem f_find (F : fr cI str X h) : ct_E G m_Mail_find [.ref X] h (cv (.int (-1)) h) := by
  refine ct_of (ws' := tb_all) rfl rfl (Nat.le_of_ble_eq_true rfl) ?_
  refine ev_aload_n d_Mail_find_0 rfl rfl ?_
  refine ev_get (fa_Mail_23 rfl rfl) d_Mail_find_1 (fr_X F) rfl ?_
  refine ev_aload_n d_Mail_find_4 rfl rfl ?_
  refine ev_get (fa_Mail_16 rfl rfl) d_Mail_find_5 (fr_X F) rfl ?_
  refine ev_Vv (ci := 2) [.ref (X + 2)] [] ca_Mail_find_98 d_Mail_find_8 rfl ((fr_head F)) rfl (Nat.le_of_ble_eq_true rfl) (f_firstNamed F (X + 2)) ?_
  refine ev_istore_n d_Mail_find_11 rfl (by decide) ?_
  refine ev_aload_n d_Mail_find_12 rfl rfl ?_
  refine ev_get (fa_Mail_16 rfl rfl) d_Mail_find_13 (fr_X F) rfl ?_
  refine ev_iconst (v := 0) d_Mail_find_16 (by decide) ?_
  refine ev_Vn (ci := 1) [.int 0] [] ca_Mail_find_89 d_Mail_find_17 rfl ((fr_tape F).1) rfl (Nat.le_of_ble_eq_true rfl) (c_Row_cut (fr_tape F) (j := 0) (Nat.zero_le _)) (fun h1 z => ?_)
  obtain ⟨-, -, -, z4, -⟩ := z
  have z5 := z4 rfl
  subst z5
  refine ev_iload_n d_Mail_find_20 rfl rfl ?_
  refine ev_iret d_Mail_find_21 rfl ?_
  exact ⟨rfl, rfl⟩
theorem f_field (hT : (gl_t G)[0]? = some (cI, .int)) (F : fr cI str X h) (f w : Int32) : ct_E G m_Mail_field [.ref X, .int f, .int w] h (cv (.int (-1)) h) := by
  refine ct_of (ws' := tb_all) rfl rfl (Nat.le_of_ble_eq_true rfl) ?_
  refine ev_aload_n d_Mail_field_0 rfl rfl ?_
  refine ev_get (fa_Mail_23 rfl rfl) d_Mail_field_1 (fr_X F) rfl ?_
  refine ev_Vv (ci := 2) [] [] ca_Mail_field_102 d_Mail_field_4 rfl ((fr_head F)) rfl (Nat.le_of_ble_eq_true rfl) (c_Head_texts (fr_head F)) ?_
  refine ev_aload_n d_Mail_field_7 rfl rfl ?_
  refine ev_get (fa_Mail_23 rfl rfl) d_Mail_field_8 (fr_X F) rfl ?_
  refine ev_iload_n d_Mail_field_11 rfl rfl ?_
  refine ev_iload_n d_Mail_field_12 rfl rfl ?_
  refine ev_Vv (ci := 2) [.int f, .int w] [.ref (X + 5)] ca_Mail_field_106 d_Mail_field_13 rfl ((fr_head F)) rfl (Nat.le_of_ble_eq_true rfl) (ct_of_cp (p_Head_textOf (fr_head F) (fr_htx F) f w)) ?_
  refine ev_Vv (ci := 3) [.int (hdT ((nI ([0] : List Int32).length - 1) / 2) f w)] [] ca_Mail_field_110 d_Mail_field_16 rfl ((fr_htx F).1) rfl (Nat.le_of_ble_eq_true rfl) (c_Texts_sizeOf hT (fr_htx F) _) ?_
  refine ev_iret d_Mail_field_19 rfl ?_
  exact ⟨by rw [szO_0], rfl⟩
theorem f_fieldByte (hT : (gl_t G)[0]? = some (cI, .int)) (F : fr cI str X h) (f w k : Int32) : ct_E G m_Mail_fieldByte [.ref X, .int f, .int w, .int k] h (cv (.int (-1)) h) := by
  refine ct_of (ws' := tb_all) rfl rfl (Nat.le_of_ble_eq_true rfl) ?_
  refine ev_aload_n d_Mail_fieldByte_0 rfl rfl ?_
  refine ev_get (fa_Mail_23 rfl rfl) d_Mail_fieldByte_1 (fr_X F) rfl ?_
  refine ev_Vv (ci := 2) [] [] ca_Mail_fieldByte_102 d_Mail_fieldByte_4 rfl ((fr_head F)) rfl (Nat.le_of_ble_eq_true rfl) (c_Head_texts (fr_head F)) ?_
  refine ev_aload_n d_Mail_fieldByte_7 rfl rfl ?_
  refine ev_get (fa_Mail_23 rfl rfl) d_Mail_fieldByte_8 (fr_X F) rfl ?_
  refine ev_iload_n d_Mail_fieldByte_11 rfl rfl ?_
  refine ev_iload_n d_Mail_fieldByte_12 rfl rfl ?_
  refine ev_Vv (ci := 2) [.int f, .int w] [.ref (X + 5)] ca_Mail_fieldByte_106 d_Mail_fieldByte_13 rfl ((fr_head F)) rfl (Nat.le_of_ble_eq_true rfl) (ct_of_cp (p_Head_textOf (fr_head F) (fr_htx F) f w)) ?_
  refine ev_iload_n d_Mail_fieldByte_16 rfl rfl ?_
  refine ev_Vv (ci := 3) [.int (hdT ((nI ([0] : List Int32).length - 1) / 2) f w), .int k] [] ca_Mail_fieldByte_114 d_Mail_fieldByte_17 rfl ((fr_htx F).1) rfl (Nat.le_of_ble_eq_true rfl) (c_Texts_byteOf hT (fr_htx F) _ _) ?_
  refine ev_iret d_Mail_fieldByte_20 rfl ?_
  exact ⟨by rw [btO_0], rfl⟩
theorem f_firstOf (F : fr cI str X h) (r : Nat) (p : Int32) : ct_E G m_ContentType_firstOf [.ref (X + 40), .ref r, .int p] h (cv (.int (-1)) h) := by
  refine ct_of (ws' := tb_all) rfl rfl (Nat.le_of_ble_eq_true rfl) ?_
  refine ev_iconst (v := 0) d_ContentType_firstOf_0 (by decide) ?_
  refine ev_istore_n d_ContentType_firstOf_1 rfl (by decide) ?_
  refine ev_iload_n d_ContentType_firstOf_2 rfl rfl ?_
  refine ev_aload_n d_ContentType_firstOf_3 rfl rfl ?_
  refine ev_get (fa_ContentType_22 rfl rfl) d_ContentType_firstOf_4 (fr_ctt F) rfl ?_
  refine ev_Vv (ci := 3) [] [.int 0] ca_ContentType_firstOf_107 d_ContentType_firstOf_7 rfl ((fr_ntx F).1) rfl (Nat.le_of_ble_eq_true rfl) (c_Texts_count (fr_ntx F)) ?_
  refine ev_icmp_ge (tgt := 45) d_ContentType_firstOf_10 (by decide) (fun _ => ?_) (fun z => absurd (by decide) z)
  refine ev_iconst (v := (-1)) d_ContentType_firstOf_45 (by decide) ?_
  refine ev_iret d_ContentType_firstOf_46 rfl ?_
  exact ⟨rfl, rfl⟩
theorem f_takeInHand (F : fr cI str X h) (r : Nat) : ct_E G m_ContentType_takeInHand [.ref (X + 40), .ref r] h (cv (.int (-1)) h) := by
  refine ct_of (ws' := tb_all) rfl rfl (Nat.le_of_ble_eq_true rfl) ?_
  refine ev_aload_n d_ContentType_takeInHand_0 rfl rfl ?_
  refine ev_get (fa_ContentType_38 rfl rfl) d_ContentType_takeInHand_1 (fr_ctt F) rfl ?_
  refine ev_Vn (ci := 3) [] [] ca_ContentType_takeInHand_41 d_ContentType_takeInHand_4 rfl ((fr_xtx F).1) rfl (Nat.le_of_ble_eq_true rfl) (c_Texts_clear (fr_xtx F) (by decide) (by omega) (by omega)) (fun h1 z => ?_)
  obtain ⟨-, -, -, z4, -⟩ := z
  have z5 := z4 rfl rfl
  subst z5
  refine ev_aload_n d_ContentType_takeInHand_7 rfl rfl ?_
  refine ev_aload_n d_ContentType_takeInHand_8 rfl rfl ?_
  refine ev_iconst (v := (-1)) d_ContentType_takeInHand_9 (by decide) ?_
  refine ev_Vv (ci := 8) [.ref r, .int (-1)] [] ca_ContentType_takeInHand_96 d_ContentType_takeInHand_10 rfl ((fr_ctt F)) rfl (Nat.le_of_ble_eq_true rfl) (f_firstOf F r (-1)) ?_
  refine ev_istore_n d_ContentType_takeInHand_13 rfl (by decide) ?_
  refine ev_iload_n d_ContentType_takeInHand_14 rfl rfl ?_
  refine ev_iconst (v := (-1)) d_ContentType_takeInHand_15 (by decide) ?_
  refine ev_icmp_ne (tgt := 23) d_ContentType_takeInHand_16 (by decide) (fun z => absurd rfl z) (fun _ => ?_)
  refine ev_iconst (v := 1) d_ContentType_takeInHand_19 (by decide) ?_
  refine ev_goto (tgt := 24) d_ContentType_takeInHand_20 (by decide) ?_
  refine ev_istore_n d_ContentType_takeInHand_24 rfl (by decide) ?_
  refine ev_iload_n d_ContentType_takeInHand_25 rfl rfl ?_
  refine ev_if_eq (tgt := 36) d_ContentType_takeInHand_26 (by decide) (fun z => absurd z (by decide)) (fun _ => ?_)
  refine ev_aload_n d_ContentType_takeInHand_29 rfl rfl ?_
  refine ev_aload_n d_ContentType_takeInHand_30 rfl rfl ?_
  refine ev_iconst (v := 0) d_ContentType_takeInHand_31 (by decide) ?_
  refine ev_Vv (ci := 8) [.ref r, .int 0] [] ca_ContentType_takeInHand_96 d_ContentType_takeInHand_32 rfl ((fr_ctt F)) rfl (Nat.le_of_ble_eq_true rfl) (f_firstOf F r 0) ?_
  refine ev_istore_n d_ContentType_takeInHand_35 rfl (by decide) ?_
  refine ev_iload_n d_ContentType_takeInHand_36 rfl rfl ?_
  refine ev_iconst (v := (-1)) d_ContentType_takeInHand_37 (by decide) ?_
  refine ev_icmp_ne (tgt := 43) d_ContentType_takeInHand_38 (by decide) (fun z => absurd rfl z) (fun _ => ?_)
  refine ev_iconst (v := (-1)) d_ContentType_takeInHand_41 (by decide) ?_
  refine ev_iret d_ContentType_takeInHand_42 rfl ?_
  exact ⟨rfl, rfl⟩
theorem f_parameter (F : fr cI str X h) : ct_E G m_Mail_parameter [.ref X] h (cv (.int (-1)) h) := by
  refine ct_of (ws' := tb_all) rfl rfl (Nat.le_of_ble_eq_true rfl) ?_
  refine ev_aload_n d_Mail_parameter_0 rfl rfl ?_
  refine ev_get (fa_Mail_60 rfl rfl) d_Mail_parameter_1 (fr_X F) rfl ?_
  refine ev_aload_n d_Mail_parameter_4 rfl rfl ?_
  refine ev_get (fa_Mail_16 rfl rfl) d_Mail_parameter_5 (fr_X F) rfl ?_
  refine ev_Vv (ci := 8) [.ref (X + 2)] [] ca_Mail_parameter_161 d_Mail_parameter_8 rfl ((fr_ctt F)) rfl (Nat.le_of_ble_eq_true rfl) (f_takeInHand F (X + 2)) ?_
  refine ev_istore_n d_Mail_parameter_11 rfl (by decide) ?_
  refine ev_aload_n d_Mail_parameter_12 rfl rfl ?_
  refine ev_get (fa_Mail_16 rfl rfl) d_Mail_parameter_13 (fr_X F) rfl ?_
  refine ev_iconst (v := 0) d_Mail_parameter_16 (by decide) ?_
  refine ev_Vn (ci := 1) [.int 0] [] ca_Mail_parameter_89 d_Mail_parameter_17 rfl ((fr_tape F).1) rfl (Nat.le_of_ble_eq_true rfl) (c_Row_cut (fr_tape F) (j := 0) (Nat.zero_le _)) (fun h1 z => ?_)
  obtain ⟨-, -, -, z4, -⟩ := z
  have z5 := z4 rfl
  subst z5
  refine ev_iload_n d_Mail_parameter_20 rfl rfl ?_
  refine ev_iret d_Mail_parameter_21 rfl ?_
  exact ⟨rfl, rfl⟩
theorem f_byteInHand (hT : (gl_t G)[0]? = some (cI, .int)) (F : fr cI str X h) (b i : Int32) : ct_E G m_ContentType_byteInHand [.ref (X + 40), .int b, .int i] h (cv (.int (-1)) h) := by
  refine ct_of (ws' := tb_all) rfl rfl (Nat.le_of_ble_eq_true rfl) ?_
  refine ev_aload_n d_ContentType_byteInHand_0 rfl rfl ?_
  refine ev_get (fa_ContentType_38 rfl rfl) d_ContentType_byteInHand_1 (fr_ctt F) rfl ?_
  refine ev_iload_n d_ContentType_byteInHand_4 rfl rfl ?_
  refine ev_if_eq (tgt := 12) d_ContentType_byteInHand_5 (by decide) (fun c_5 => ?_) (fun c_5 => ?_)
  · refine ev_iconst (v := 1) d_ContentType_byteInHand_12 (by decide) ?_
    refine ev_iload_n d_ContentType_byteInHand_13 rfl rfl ?_
    refine ev_Vv (ci := 3) [.int 1, .int i] [] ca_ContentType_byteInHand_82 d_ContentType_byteInHand_14 rfl ((fr_xtx F).1) rfl (Nat.le_of_ble_eq_true rfl) (c_Texts_byteOf hT (fr_xtx F) _ _) ?_
    refine ev_iret d_ContentType_byteInHand_17 rfl ?_
    exact ⟨by rw [btO_0], rfl⟩
  · refine ev_iconst (v := 0) d_ContentType_byteInHand_8 (by decide) ?_
    refine ev_goto (tgt := 13) d_ContentType_byteInHand_9 (by decide) ?_
    refine ev_iload_n d_ContentType_byteInHand_13 rfl rfl ?_
    refine ev_Vv (ci := 3) [.int 0, .int i] [] ca_ContentType_byteInHand_82 d_ContentType_byteInHand_14 rfl ((fr_xtx F).1) rfl (Nat.le_of_ble_eq_true rfl) (c_Texts_byteOf hT (fr_xtx F) _ _) ?_
    refine ev_iret d_ContentType_byteInHand_17 rfl ?_
    exact ⟨by rw [btO_0], rfl⟩
theorem f_parameterByte (hT : (gl_t G)[0]? = some (cI, .int)) (F : fr cI str X h) (b i : Int32) : ct_E G m_Mail_parameterByte [.ref X, .int b, .int i] h (cv (.int (-1)) h) := by
  refine ct_of (ws' := tb_all) rfl rfl (Nat.le_of_ble_eq_true rfl) ?_
  refine ev_aload_n d_Mail_parameterByte_0 rfl rfl ?_
  refine ev_get (fa_Mail_60 rfl rfl) d_Mail_parameterByte_1 (fr_X F) rfl ?_
  refine ev_iload_n d_Mail_parameterByte_4 rfl rfl ?_
  refine ev_iload_n d_Mail_parameterByte_5 rfl rfl ?_
  refine ev_Vv (ci := 8) [.int b, .int i] [] ca_Mail_parameterByte_164 d_Mail_parameterByte_6 rfl ((fr_ctt F)) rfl (Nat.le_of_ble_eq_true rfl) (f_byteInHand hT F b i) ?_
  refine ev_iret d_Mail_parameterByte_9 rfl ?_
  exact ⟨rfl, rfl⟩
end FCALLS
