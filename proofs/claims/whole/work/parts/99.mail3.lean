section MAIL3
variable {G : gl_G} {cI : ClassId} {h : hp_T} {X : Nat} {σ : rwT} {B T : List Int32} {F : Flds} {bd : Nat}
theorem w_find (hNm : gl_nm G) (hT : (gl_t G)[0]? = some (cI, .int)) (C : clS cI X h σ B T F bd) : ct_E G m_Mail_find [.ref X] h (cr (fun v h' => v = .int (fnd T F 0) ∧ clP cI X h σ B [] F bd h')) := by
  obtain ⟨S, H, C3, C4, ⟨f5, C5, C6⟩, C7, C8, C9⟩ := C
  have m2 : (2 : Nat) ∈ rws := by decide
  have hX := S.1.2.2
  refine ct_of (ws' := tb_all) rfl rfl (Nat.le_of_ble_eq_true rfl) ?_
  refine ev_aload_n d_Mail_find_0 rfl rfl ?_
  refine ev_get (fa_Mail_23 rfl rfl) d_Mail_find_1 C4 rfl ?_
  refine ev_aload_n d_Mail_find_4 rfl rfl ?_
  refine ev_get (fa_Mail_16 rfl rfl) d_Mail_find_5 C4 rfl ?_
  refine ev_Vv (ci := 2) [.ref (X + 2)] [] ca_Mail_find_98 d_Mail_find_8 rfl (H.1) rfl (Nat.le_of_ble_eq_true rfl) (w_firstNamed hNm hT S H C3 (by rw [C8]; exact C9)) ?_
  rw [C8]
  refine ev_istore_n d_Mail_find_11 rfl (by decide) ?_
  refine ev_aload_n d_Mail_find_12 rfl rfl ?_
  refine ev_get (fa_Mail_16 rfl rfl) d_Mail_find_13 C4 rfl ?_
  refine ev_iconst (v := 0) d_Mail_find_16 (by decide) ?_
  refine ev_Vn (ci := 1) [.int 0] [] ca_Mail_find_89 d_Mail_find_17 rfl ((S.1.1 _ m2).1.1) rfl (Nat.le_of_ble_eq_true rfl) (w_cutTo S.1 m2 0 (fun z => absurd z (by decide))) (fun h1 z => ?_)
  obtain ⟨q1, q2⟩ := z
  have S2 := tS_go S q1 q2
  have K42 := rwR_obj S.1 q2 C4 (by omega) (nrow (q := 0) (by decide))
  obtain ⟨K52, K72⟩ := kR_arr (O := []) (kR_of q2) C7 (by simp) hX
  refine ev_iload_n d_Mail_find_20 rfl rfl ?_
  refine ev_iret d_Mail_find_21 rfl ?_
  refine ⟨_, rfl, rfl, _, ⟨S2, ⟨rwR_obj S.1 q2 H.1 (by omega) (nrow (by decide)), H.2.1, H.2.2.1, H.2.2.2.1, H.2.2.2.2⟩, C3, K42, ⟨f5, by rw [K52]; exact C5, C6⟩, K72, rfl, by decide⟩, kR_of q2, fun τ hτ => by rw [rwU_ne (fun z => hτ (by simp [z]))]⟩
theorem w_field (hT : (gl_t G)[0]? = some (cI, .int)) (C : clS cI X h σ B T F bd) (f w : Int32) : ct_E G m_Mail_field [.ref X, .int f, .int w] h (cv (.int (oL (fdt F f w))) h) := by
  obtain ⟨S, H, C3, C4, -⟩ := C
  have m5 : (5 : Nat) ∈ txs := by decide
  have h5 := H.2.2.2.2
  have hc : (nI (σ (5 + 3)).2.2.length - 1) / 2 = nI F.length := by
    rw [show (σ (5 + 3)).2.2 = bnF F from H.2.2.1, bnF_len, nI_pred, show nI (2 * F.length) / 2 = nI (2 * F.length / 2) from pk_div (d := 2) (by omega) (by decide) (by decide), Nat.mul_div_cancel_left _ (by decide)]
  refine ct_of (ws' := tb_all) rfl rfl (Nat.le_of_ble_eq_true rfl) ?_
  refine ev_aload_n d_Mail_field_0 rfl rfl ?_
  refine ev_get (fa_Mail_23 rfl rfl) d_Mail_field_1 C4 rfl ?_
  refine ev_Vv (ci := 2) [] [] ca_Mail_field_102 d_Mail_field_4 rfl (H.1) rfl (Nat.le_of_ble_eq_true rfl) (c_Head_texts H.1) ?_
  refine ev_aload_n d_Mail_field_7 rfl rfl ?_
  refine ev_get (fa_Mail_23 rfl rfl) d_Mail_field_8 C4 rfl ?_
  refine ev_iload_n d_Mail_field_11 rfl rfl ?_
  refine ev_iload_n d_Mail_field_12 rfl rfl ?_
  refine ev_Vv (ci := 2) [.int f, .int w] [.ref (X + 5)] ca_Mail_field_106 d_Mail_field_13 rfl (H.1) rfl (Nat.le_of_ble_eq_true rfl) (ct_of_cp (p_Head_textOf H.1 (tS_tx S m5) f w)) ?_
  rw [hc]
  refine ev_Vv (ci := 3) [.int _] [] ca_Mail_field_110 d_Mail_field_16 rfl ((S.2 5 m5)) rfl (Nat.le_of_ble_eq_true rfl) (w_sizeOf hT S m5 _) ?_
  rw [show (σ (5 + 3)).2.2 = bnF F from H.2.2.1, field_F F f w h5]
  refine ev_iret d_Mail_field_19 rfl ?_
  exact ⟨rfl, rfl⟩
theorem w_fieldByte (hT : (gl_t G)[0]? = some (cI, .int)) (C : clS cI X h σ B T F bd) (f w i : Int32) : ct_E G m_Mail_fieldByte [.ref X, .int f, .int w, .int i] h (cv (.int (oB (fdt F f w) i)) h) := by
  obtain ⟨S, H, C3, C4, -⟩ := C
  have m5 : (5 : Nat) ∈ txs := by decide
  have h5 := H.2.2.2.2
  have hc : (nI (σ (5 + 3)).2.2.length - 1) / 2 = nI F.length := by
    rw [show (σ (5 + 3)).2.2 = bnF F from H.2.2.1, bnF_len, nI_pred, show nI (2 * F.length) / 2 = nI (2 * F.length / 2) from pk_div (d := 2) (by omega) (by decide) (by decide), Nat.mul_div_cancel_left _ (by decide)]
  refine ct_of (ws' := tb_all) rfl rfl (Nat.le_of_ble_eq_true rfl) ?_
  refine ev_aload_n d_Mail_fieldByte_0 rfl rfl ?_
  refine ev_get (fa_Mail_23 rfl rfl) d_Mail_fieldByte_1 C4 rfl ?_
  refine ev_Vv (ci := 2) [] [] ca_Mail_fieldByte_102 d_Mail_fieldByte_4 rfl (H.1) rfl (Nat.le_of_ble_eq_true rfl) (c_Head_texts H.1) ?_
  refine ev_aload_n d_Mail_fieldByte_7 rfl rfl ?_
  refine ev_get (fa_Mail_23 rfl rfl) d_Mail_fieldByte_8 C4 rfl ?_
  refine ev_iload_n d_Mail_fieldByte_11 rfl rfl ?_
  refine ev_iload_n d_Mail_fieldByte_12 rfl rfl ?_
  refine ev_Vv (ci := 2) [.int f, .int w] [.ref (X + 5)] ca_Mail_fieldByte_106 d_Mail_fieldByte_13 rfl (H.1) rfl (Nat.le_of_ble_eq_true rfl) (ct_of_cp (p_Head_textOf H.1 (tS_tx S m5) f w)) ?_
  rw [hc]
  refine ev_iload_n d_Mail_fieldByte_16 rfl rfl ?_
  refine ev_Vv (ci := 3) [.int _, .int i] [] ca_Mail_fieldByte_114 d_Mail_fieldByte_17 rfl ((S.2 5 m5)) rfl (Nat.le_of_ble_eq_true rfl) (w_byteOf hT S m5 _ i) ?_
  rw [show (σ (5 + 1)).2.2 = fK F from H.2.1, show (σ (5 + 3)).2.2 = bnF F from H.2.2.1, byte_F F f w i h5 C3]
  refine ev_iret d_Mail_fieldByte_20 rfl ?_
  exact ⟨rfl, rfl⟩
theorem fedL_at (a b c d e : Int32) (j : Nat) (hj : j < 20) : (fedL a b c d e).getD j 0 = fedV a b c d e j := by
  rw [List.getD_eq_getElem?_getD]
  simp [fedL, hj]
theorem w_feed (hT : (gl_t G)[0]? = some (cI, .int)) (C : clS cI X h σ B T F bd) (a b c d e : Int32) : ct_E G m_Mail_feed [.ref X, .int a, .int b, .int c, .int d, .int e] h (cn (clP cI X h σ (fedL a b c d e) T F bd)) := by
  obtain ⟨S, H, C3, C4, ⟨f5, C5, C6⟩, C7, C8, C9⟩ := C
  have hX : ∀ (e1 : va_E), (hp_up h (X + 1) e1).2.2 X = some (ml_o X) := fun e1 => by rw [hp_up_ne (by omega)]; exact C4
  refine ct_of (ws' := tb_all) rfl rfl (Nat.le_of_ble_eq_true rfl) ?_
  refine ev_aload_n d_Mail_feed_0 rfl rfl ?_
  refine ev_get (fa_Mail_9 rfl rfl) d_Mail_feed_1 C4 rfl ?_
  refine ev_iconst (v := 0) d_Mail_feed_4 (by decide) ?_
  refine ev_iload_n d_Mail_feed_5 rfl rfl ?_
  refine ev_iast hT C5 (pk_in 0 5 (by decide)) d_Mail_feed_6 ?_
  refine ev_aload_n d_Mail_feed_7 rfl rfl ?_
  refine ev_get (fa_Mail_9 rfl rfl) d_Mail_feed_8 (hX _) rfl ?_
  refine ev_iconst (v := 1) d_Mail_feed_11 (by decide) ?_
  refine ev_iload_n d_Mail_feed_12 rfl rfl ?_
  refine ev_iast hT (hp_up_self _ _ _) (pk_in 1 5 (by decide)) d_Mail_feed_13 ?_
  rw [hp_up_up]
  refine ev_aload_n d_Mail_feed_14 rfl rfl ?_
  refine ev_get (fa_Mail_9 rfl rfl) d_Mail_feed_15 (hX _) rfl ?_
  refine ev_iconst (v := 2) d_Mail_feed_18 (by decide) ?_
  refine ev_iload_n d_Mail_feed_19 rfl rfl ?_
  refine ev_iast hT (hp_up_self _ _ _) (pk_in 2 5 (by decide)) d_Mail_feed_20 ?_
  rw [hp_up_up]
  refine ev_aload_n d_Mail_feed_21 rfl rfl ?_
  refine ev_get (fa_Mail_9 rfl rfl) d_Mail_feed_22 (hX _) rfl ?_
  refine ev_iconst (v := 3) d_Mail_feed_25 (by decide) ?_
  refine ev_iload d_Mail_feed_26 rfl ?_
  refine ev_iast hT (hp_up_self _ _ _) (pk_in 3 5 (by decide)) d_Mail_feed_28 ?_
  rw [hp_up_up]
  refine ev_aload_n d_Mail_feed_29 rfl rfl ?_
  refine ev_get (fa_Mail_9 rfl rfl) d_Mail_feed_30 (hX _) rfl ?_
  refine ev_iconst (v := 4) d_Mail_feed_33 (by decide) ?_
  refine ev_iload d_Mail_feed_34 rfl ?_
  refine ev_iast hT (hp_up_self _ _ _) (pk_in 4 5 (by decide)) d_Mail_feed_36 ?_
  rw [hp_up_up]
  refine ev_vret d_Mail_feed_37 rfl ?_
  refine ⟨rfl, σ, ⟨tS_arr S C7, ⟨by rw [hp_up_ne (by omega)]; exact H.1, H.2⟩, C3, hX _, ⟨_, hp_up_self _ _ _, fun j hj => ?_⟩, C7, C8, C9⟩, kR_up (by simp), fun _ _ => rfl⟩
  rw [fedL_at _ _ _ _ _ _ hj]
  unfold fedV
  congr 1
  have hd : j / 4 = 0 ∨ j / 4 = 1 ∨ j / 4 = 2 ∨ j / 4 = 3 ∨ j / 4 = 4 := by omega
  rcases hd with q | q | q | q | q
  · rw [q, if_pos (by omega)]; rfl
  · rw [q, if_neg (by omega), if_pos (by omega)]; rfl
  · rw [q, if_neg (by omega), if_neg (by omega), if_pos (by omega)]; rfl
  · rw [q, if_neg (by omega), if_neg (by omega), if_neg (by omega), if_pos (by omega)]; rfl
  · rw [q, if_neg (by omega), if_neg (by omega), if_neg (by omega), if_neg (by omega)]; rfl
end MAIL3
