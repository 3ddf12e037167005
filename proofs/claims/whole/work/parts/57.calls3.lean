section FCALLS3
variable {G : gl_G} {cI : ClassId} {str : Nat} {h : hp_T} {X : Nat}
theorem hp_up_up {h : hp_T} {a : Nat} {e1 e2 : va_E} : hp_up (hp_up h a e1) a e2 = hp_up h a e2 := by
  unfold hp_up
  congr 2
  funext q
  by_cases hq : q = a
  · simp [hq]
  · simp [hq]
/-- what a call on a fresh object may have changed -/
def kf (X : Nat) (h h' : hp_T) : Prop := h.1 ≤ h'.1 ∧ h'.1 ≤ h.1 + 1 ∧ h.2.1 ≤ h'.2.1 ∧ h'.2.1 ≤ h.2.1 + 32 ∧ ∀ q, X + 69 < q → q < h.1 → h'.2.2 q = h.2.2 q
theorem kf_rf : kf X h h := ⟨Nat.le_refl _, Nat.le_succ _, Nat.le_refl _, Nat.le_add_right _ _, fun _ _ _ => rfl⟩
theorem f_closeValue (F : fr cI str X h) : ct_E G m_Head_closeValue [.ref (X + 4)] h (cn fun h' => h' = h) := by
  refine ct_of (ws' := tb_all) rfl rfl (Nat.le_of_ble_eq_true rfl) ?_
  refine ev_aload_n d_Head_closeValue_0 rfl rfl ?_
  refine ev_get (fa_Head_22 rfl rfl) d_Head_closeValue_1 (fr_head F) rfl ?_
  refine ev_if_eq (tgt := 19) d_Head_closeValue_4 (by decide) (fun _ => ?_) (fun z => absurd rfl z)
  refine ev_vret d_Head_closeValue_19 rfl ?_
  exact ⟨rfl, rfl⟩
theorem f_readLines (F : fr cI str X h) : ct_E G m_Head_readLines [.ref (X + 4), .ref (X + 2)] h (cn fun h' => h' = h) := by
  refine ct_of (ws' := tb_all) rfl rfl (Nat.le_of_ble_eq_true rfl) ?_
  refine ev_aload_n d_Head_readLines_0 rfl rfl ?_
  refine ev_get (fa_Head_12 rfl rfl) d_Head_readLines_1 (fr_head F) rfl ?_
  refine ev_Vn (ci := 3) [] [] ca_Head_readLines_35 d_Head_readLines_4 rfl ((fr_htx F).1) rfl (Nat.le_of_ble_eq_true rfl) (c_Texts_clear (fr_htx F) (by decide) (by omega) (by omega)) (fun h1 z => ?_)
  obtain ⟨-, -, -, z4, -⟩ := z
  have z5 := z4 rfl rfl
  subst z5
  refine ev_aload_n d_Head_readLines_7 rfl rfl ?_
  refine ev_iconst (v := 0) d_Head_readLines_8 (by decide) ?_
  refine ev_put (fp_Head_18 rfl rfl) d_Head_readLines_9 (fr_head F) (Nat.le_of_ble_eq_true rfl) rfl rfl ?_
  rw [show hp_up h1 (X + 4) (.inr (2, [Value.ref (X + 5), .int 0, .int 0].set 1 (.int 0))) = h1 from hp_up_same (fr_head F)]
  refine ev_aload_n d_Head_readLines_12 rfl rfl ?_
  refine ev_Vv (ci := 1) [] [] ca_Head_readLines_38 d_Head_readLines_13 rfl ((fr_tape F).1) rfl (Nat.le_of_ble_eq_true rfl) (c_Row_size (x := .null) (fr_tape F).1) ?_
  refine ev_istore_n d_Head_readLines_16 rfl (by decide) ?_
  refine ev_iconst (v := 0) d_Head_readLines_17 (by decide) ?_
  refine ev_istore_n d_Head_readLines_18 rfl (by decide) ?_
  refine ev_iconst (v := 0) d_Head_readLines_19 (by decide) ?_
  refine ev_istore d_Head_readLines_20 (by decide) ?_
  refine ev_iload d_Head_readLines_22 rfl ?_
  refine ev_iload_n d_Head_readLines_24 rfl rfl ?_
  refine ev_icmp_ge (tgt := 127) d_Head_readLines_25 (by decide) (fun _ => ?_) (fun z => absurd (by decide) z)
  refine ev_aload_n d_Head_readLines_127 rfl rfl ?_
  refine ev_Vn (ci := 2) [] [] ca_Head_readLines_51 d_Head_readLines_128 rfl ((fr_head F)) rfl (Nat.le_of_ble_eq_true rfl) (f_closeValue F) (fun h1 z => ?_)
  subst z
  refine ev_vret d_Head_readLines_131 rfl ?_
  exact ⟨rfl, rfl⟩
theorem f_read (F : fr cI str X h) : ct_E G m_Mail_read [.ref X] h (cv (.int 0) h) := by
  refine ct_of (ws' := tb_all) rfl rfl (Nat.le_of_ble_eq_true rfl) ?_
  refine ev_aload_n d_Mail_read_0 rfl rfl ?_
  refine ev_get (fa_Mail_23 rfl rfl) d_Mail_read_1 (fr_X F) rfl ?_
  refine ev_aload_n d_Mail_read_4 rfl rfl ?_
  refine ev_get (fa_Mail_16 rfl rfl) d_Mail_read_5 (fr_X F) rfl ?_
  refine ev_Vn (ci := 2) [.ref (X + 2)] [] ca_Mail_read_85 d_Mail_read_8 rfl ((fr_head F)) rfl (Nat.le_of_ble_eq_true rfl) (f_readLines F) (fun h1 z => ?_)
  subst z
  refine ev_aload_n d_Mail_read_11 rfl rfl ?_
  refine ev_get (fa_Mail_16 rfl rfl) d_Mail_read_12 (fr_X F) rfl ?_
  refine ev_iconst (v := 0) d_Mail_read_15 (by decide) ?_
  refine ev_Vn (ci := 1) [.int 0] [] ca_Mail_read_89 d_Mail_read_16 rfl ((fr_tape F).1) rfl (Nat.le_of_ble_eq_true rfl) (c_Row_cut (fr_tape F) (j := 0) (Nat.zero_le _)) (fun h1 z => ?_)
  obtain ⟨-, -, -, z4, -⟩ := z
  have z5 := z4 rfl
  subst z5
  refine ev_aload_n d_Mail_read_19 rfl rfl ?_
  refine ev_get (fa_Mail_23 rfl rfl) d_Mail_read_20 (fr_X F) rfl ?_
  refine ev_Vv (ci := 2) [] [] ca_Mail_read_92 d_Mail_read_23 rfl ((fr_head F)) rfl (Nat.le_of_ble_eq_true rfl) (f_count F) ?_
  refine ev_iret d_Mail_read_26 rfl ?_
  exact ⟨rfl, rfl⟩
theorem f_feed (hT : (gl_t G)[0]? = some (cI, .int)) (F : fr cI str X h) (a b c d e : Int32) : ct_E G m_Mail_feed [.ref X, .int a, .int b, .int c, .int d, .int e] h (cn fun h' => kf X h h') := by
  have hX : ∀ (e1 : va_E), (hp_up h (X + 1) e1).2.2 X = some (ml_o X) := fun e1 => by rw [hp_up_ne (by omega)]; exact fr_X F
  refine ct_of (ws' := tb_all) rfl rfl (Nat.le_of_ble_eq_true rfl) ?_
  refine ev_aload_n d_Mail_feed_0 rfl rfl ?_
  refine ev_get (fa_Mail_9 rfl rfl) d_Mail_feed_1 (fr_X F) rfl ?_
  refine ev_iconst (v := 0) d_Mail_feed_4 (by decide) ?_
  refine ev_iload_n d_Mail_feed_5 rfl rfl ?_
  refine ev_iast hT (fr_ready F) (pk_in 0 5 (by decide)) d_Mail_feed_6 ?_
  refine ev_aload_n d_Mail_feed_7 rfl rfl ?_
  refine ev_get (fa_Mail_9 rfl rfl) d_Mail_feed_8 (hX _) rfl ?_
  refine ev_iconst (v := 1) d_Mail_feed_11 (by decide) ?_
  refine ev_iload_n d_Mail_feed_12 rfl rfl ?_
  refine ev_iast hT (hp_up_self _ _ _) (pk_in 1 5 (by decide)) d_Mail_feed_13 ?_
  rw [hp_up_up]
  refine ev_aload_n d_Mail_feed_14 rfl rfl ?_
  refine ev_get (fa_Mail_9 rfl rfl) d_Mail_feed_15 (hX _) rfl ?_
  refine ev_iconst (v := 2) d_Mail_feed_18 (by decide) ?_
  refine ev_iload_n d_Mail_feed_19 rfl rfl ?_
  refine ev_iast hT (hp_up_self _ _ _) (pk_in 2 5 (by decide)) d_Mail_feed_20 ?_
  rw [hp_up_up]
  refine ev_aload_n d_Mail_feed_21 rfl rfl ?_
  refine ev_get (fa_Mail_9 rfl rfl) d_Mail_feed_22 (hX _) rfl ?_
  refine ev_iconst (v := 3) d_Mail_feed_25 (by decide) ?_
  refine ev_iload d_Mail_feed_26 rfl ?_
  refine ev_iast hT (hp_up_self _ _ _) (pk_in 3 5 (by decide)) d_Mail_feed_28 ?_
  rw [hp_up_up]
  refine ev_aload_n d_Mail_feed_29 rfl rfl ?_
  refine ev_get (fa_Mail_9 rfl rfl) d_Mail_feed_30 (hX _) rfl ?_
  refine ev_iconst (v := 4) d_Mail_feed_33 (by decide) ?_
  refine ev_iload d_Mail_feed_34 rfl ?_
  refine ev_iast hT (hp_up_self _ _ _) (pk_in 4 5 (by decide)) d_Mail_feed_36 ?_
  rw [hp_up_up]
  refine ev_vret d_Mail_feed_37 rfl ?_
  exact ⟨rfl, Nat.le_refl _, Nat.le_succ _, Nat.le_refl _, Nat.le_add_right _ _, fun q h1 _ => hp_up_ne (by omega)⟩
def fl (f : Nat → Int32) (x : Int32) (i : Nat) : Nat → Int32 := fun j => if j < i then x else f j
theorem fl_up {f : Nat → Int32} {x : Int32} {i : Nat} : upd (fl f x i) i x = fl f x (i + 1) := by
  funext j
  unfold upd fl
  by_cases h1 : j = i
  · subst h1
    simp
  · by_cases h2 : j < i
    · simp [h1, h2, show j < i + 1 by omega]
    · simp [h1, h2, show ¬ j < i + 1 by omega]
theorem c_fill (hT : (gl_t G)[0]? = some (cI, .int)) {a n : Nat} {f : Nat → Int32} (hA : h.2.2 a = some (.inl (cI, n, .inl f))) (hn : n < 2 ^ 30) (x : Int32) : ct_E G m_Arrays_fill [.ref a, .int x] h (cn fun h' => h' = hp_up h a (.inl (cI, n, .inl (fl f x n)))) := by
  have loop : ∀ m i, i + m = n → ev_E G m_Arrays_fill 5 [(0, .ref a), (1, .int x), (2, .int (nI i)), (3, .int (nI n))] [] (hp_up h a (.inl (cI, n, .inl (fl f x i)))) (cn fun h' => h' = hp_up h a (.inl (cI, n, .inl (fl f x n)))) := by
    intro m
    induction m with
    | zero =>
      intro i hi
      refine ev_iload_n d_Arrays_fill_5 rfl rfl ?_
      refine ev_iload_n d_Arrays_fill_6 rfl rfl ?_
      refine ev_icmp_ge (tgt := 20) d_Arrays_fill_7 (by decide) (fun _ => ?_) (fun z => absurd (nI_le (by omega) (by omega)) z)
      refine ev_vret d_Arrays_fill_20 rfl ?_
      have : i = n := by omega
      subst this
      exact ⟨rfl, rfl⟩
    | succ m ih =>
      intro i hi
      refine ev_iload_n d_Arrays_fill_5 rfl rfl ?_
      refine ev_iload_n d_Arrays_fill_6 rfl rfl ?_
      refine ev_icmp_ge (tgt := 20) d_Arrays_fill_7 (by decide) (fun z => absurd z (nI_ge (by omega) (by omega))) (fun _ => ?_)
      refine ev_aload_n d_Arrays_fill_10 rfl rfl ?_
      refine ev_iload_n d_Arrays_fill_11 rfl rfl ?_
      refine ev_iload_n d_Arrays_fill_12 rfl rfl ?_
      refine ev_iast hT (hp_up_self _ _ _) (vp_in_nI (by omega) (by omega)) d_Arrays_fill_13 ?_
      rw [hp_up_up, nI_clamp (by omega), fl_up]
      refine ev_iinc d_Arrays_fill_14 rfl (by decide) ?_
      refine ev_goto (tgt := 5) d_Arrays_fill_17 (by decide) ?_
      rw [show nI i + Int32.ofInt 1 = nI (i + 1) from nI_1 i]
      exact ih (i + 1) (by omega)
  refine ct_of (ws' := tb_all) rfl rfl (Nat.le_of_ble_eq_true rfl) ?_
  refine ev_iconst (v := 0) d_Arrays_fill_0 (by decide) ?_
  refine ev_istore_n d_Arrays_fill_1 rfl (by decide) ?_
  refine ev_aload_n d_Arrays_fill_2 rfl rfl ?_
  refine ev_alen hT hA d_Arrays_fill_3 ?_
  refine ev_istore_n d_Arrays_fill_4 rfl (by decide) ?_
  have h0 := loop n 0 (by omega)
  rw [show hp_up h a (.inl (cI, n, .inl (fl f x 0))) = h from hp_up_same (by rw [hA]; rfl)] at h0
  exact h0
end FCALLS3
