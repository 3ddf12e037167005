section CTORS2
variable {G : gl_G} {cI : ClassId} {str : Nat}
/-- the text of the signs, where the launch has it -/
def gl_sg (G : gl_G) (str : Nat) : Prop := ∀ U : State, gl_L G U → vk_R "MailHeads$Words" 32 "<>:;@,.)]\\" str U
def wd_b (cI : ClassId) (str a : Nat) : Nat → va_E := bo (.inr (4, [.ref (a + 1), .ref (a + 6), .ref (a + 1), .int (-1), .ref str])) (bj 5 (tx_b cI (a + 1)) (rw_b cI (a + 6)))
theorem c_Words_init (hT : (gl_t G)[0]? = some (cI, .int)) (hS : gl_sg G str) (h : hp_T) (a : Nat) (ha : a + 1 = h.1) (hA : h.2.2 a = some (.inr (4, [.null, .null, .null, .int 0, .null]))) : ct_E G m_Words_init [.ref a] h (cn fun h' => nb h h' a 7 56 (wd_b cI str a)) := by
  refine ct_of (ws' := tb_all) rfl rfl (Nat.le_of_ble_eq_true rfl) ?_
  refine ev_aload_n d_Words_init_0 rfl rfl ?_
  refine ev_objInit (List.mem_cons_of_mem _ tw_101) (List.mem_cons_of_mem _ tw_29) (List.mem_cons_of_mem _ tw_30) (by decide) (by decide) d_Words_init_1 ?_
  have I0 := ci_start ha hA
  refine ev_child d_Words_init_4 d_Words_init_5 d_Words_init_8 d_Words_init_9 d_Words_init_12 (fn_Words_9 rfl rfl) ca_Words_init_11 (fp_Words_12 rfl rfl rfl) (fun _ => rfl) (fun _ => rfl) rfl (c_Texts_init hT) I0 (Nat.le_of_ble_eq_true rfl) (fun h2 I2 => ?_)
  refine ev_child d_Words_init_15 d_Words_init_16 d_Words_init_19 d_Words_init_20 d_Words_init_23 (fn_Words_18 rfl rfl) ca_Words_init_20 (fp_Words_21 rfl rfl rfl) (fun _ => rfl) (fun _ => rfl) rfl (c_Row_init hT) I2 (Nat.le_of_ble_eq_true rfl) (fun h2 I2 => ?_)
  refine ev_aload_n d_Words_init_26 rfl rfl ?_
  refine ev_aload_n d_Words_init_27 rfl rfl ?_
  refine ev_get (fa_Words_12 rfl rfl) d_Words_init_28 I2.2.2.2.1 rfl ?_
  refine ev_put (fp_Words_25 rfl rfl) d_Words_init_31 I2.2.2.2.1 (Nat.le_of_ble_eq_true rfl) rfl rfl ?_
  have I3 := ci_put (n := 2) (v := .ref (a + 1)) I2
  refine ev_aload_n d_Words_init_34 rfl rfl ?_
  refine ev_iconst (v := (-1)) d_Words_init_35 (by decide) ?_
  refine ev_put (fp_Words_28 rfl rfl) d_Words_init_36 I3.2.2.2.1 (Nat.le_of_ble_eq_true rfl) rfl rfl ?_
  have I4 := ci_put (n := 3) (v := .int (-1)) I3
  refine ev_aload_n d_Words_init_39 rfl rfl ?_
  refine ev_ldcS (tx := "<>:;@,.)]\\") hS d_Words_init_40 ?_
  refine ev_put (fp_Words_34 rfl rfl) d_Words_init_42 I4.2.2.2.1 (Nat.le_of_ble_eq_true rfl) rfl rfl ?_
  have I5 := ci_put (n := 4) (v := .ref str) I4
  refine ev_vret d_Words_init_45 rfl ?_
  exact ⟨rfl, ci_end I5⟩
def ad_b (cI : ClassId) (w a : Nat) : Nat → va_E := bo (.inr (5, [.ref w, .ref (a + 1), .ref (a + 6), .ref (a + 8), .ref (a + 13), .int 0, .int (-1), .int (-1)])) (bj 12 (bj 7 (bj 5 (tx_b cI (a + 1)) (rw_b cI (a + 6))) (tx_b cI (a + 8))) (rw_b cI (a + 13)))
theorem c_Addresses_init (hT : (gl_t G)[0]? = some (cI, .int)) (w : Nat) (h : hp_T) (a : Nat) (ha : a + 1 = h.1) (hA : h.2.2 a = some (.inr (5, [.null, .null, .null, .null, .null, .int 0, .int 0, .int 0]))) : ct_E G m_Addresses_init [.ref a, .ref w] h (cn fun h' => nb h h' a 14 112 (ad_b cI w a)) := by
  refine ct_of (ws' := tb_all) rfl rfl (Nat.le_of_ble_eq_true rfl) ?_
  refine ev_aload_n d_Addresses_init_0 rfl rfl ?_
  refine ev_objInit (List.mem_cons_of_mem _ tw_129) (List.mem_cons_of_mem _ tw_29) (List.mem_cons_of_mem _ tw_30) (by decide) (by decide) d_Addresses_init_1 ?_
  have I0 := ci_start ha hA
  refine ev_aload_n d_Addresses_init_4 rfl rfl ?_
  refine ev_aload_n d_Addresses_init_5 rfl rfl ?_
  refine ev_put (fp_Addresses_9 rfl rfl rfl) d_Addresses_init_6 I0.2.2.2.1 (Nat.le_of_ble_eq_true rfl) rfl rfl ?_
  have I1 := ci_put (n := 0) (v := .ref w) I0
  refine ev_child d_Addresses_init_9 d_Addresses_init_10 d_Addresses_init_13 d_Addresses_init_14 d_Addresses_init_17 (fn_Addresses_15 rfl rfl) ca_Addresses_init_17 (fp_Addresses_18 rfl rfl rfl) (fun _ => rfl) (fun _ => rfl) rfl (c_Texts_init hT) I1 (Nat.le_of_ble_eq_true rfl) (fun h2 I2 => ?_)
  refine ev_child d_Addresses_init_20 d_Addresses_init_21 d_Addresses_init_24 d_Addresses_init_25 d_Addresses_init_28 (fn_Addresses_22 rfl rfl) ca_Addresses_init_24 (fp_Addresses_25 rfl rfl rfl) (fun _ => rfl) (fun _ => rfl) rfl (c_Row_init hT) I2 (Nat.le_of_ble_eq_true rfl) (fun h2 I2 => ?_)
  refine ev_child d_Addresses_init_31 d_Addresses_init_32 d_Addresses_init_35 d_Addresses_init_36 d_Addresses_init_39 (fn_Addresses_15 rfl rfl) ca_Addresses_init_17 (fp_Addresses_29 rfl rfl rfl) (fun _ => rfl) (fun _ => rfl) rfl (c_Texts_init hT) I2 (Nat.le_of_ble_eq_true rfl) (fun h2 I2 => ?_)
  refine ev_child d_Addresses_init_42 d_Addresses_init_43 d_Addresses_init_46 d_Addresses_init_47 d_Addresses_init_50 (fn_Addresses_22 rfl rfl) ca_Addresses_init_24 (fp_Addresses_32 rfl rfl rfl) (fun _ => rfl) (fun _ => rfl) rfl (c_Row_init hT) I2 (Nat.le_of_ble_eq_true rfl) (fun h2 I2 => ?_)
  refine ev_aload_n d_Addresses_init_53 rfl rfl ?_
  refine ev_iconst (v := 0) d_Addresses_init_54 (by decide) ?_
  refine ev_put (fp_Addresses_35 rfl rfl) d_Addresses_init_55 I2.2.2.2.1 (Nat.le_of_ble_eq_true rfl) rfl rfl ?_
  have I3 := ci_put (n := 5) (v := .int 0) I2
  refine ev_aload_n d_Addresses_init_58 rfl rfl ?_
  refine ev_iconst (v := (-1)) d_Addresses_init_59 (by decide) ?_
  refine ev_put (fp_Addresses_39 rfl rfl) d_Addresses_init_60 I3.2.2.2.1 (Nat.le_of_ble_eq_true rfl) rfl rfl ?_
  have I4 := ci_put (n := 6) (v := .int (-1)) I3
  refine ev_aload_n d_Addresses_init_63 rfl rfl ?_
  refine ev_iconst (v := (-1)) d_Addresses_init_64 (by decide) ?_
  refine ev_put (fp_Addresses_42 rfl rfl) d_Addresses_init_65 I4.2.2.2.1 (Nat.le_of_ble_eq_true rfl) rfl rfl ?_
  have I5 := ci_put (n := 7) (v := .int (-1)) I4
  refine ev_vret d_Addresses_init_68 rfl ?_
  exact ⟨rfl, ci_end I5⟩
def id_b (cI : ClassId) (a : Nat) : Nat → va_E := bo (.inr (6, [.ref (a + 1)])) (tx_b cI (a + 1))
theorem c_Identities_init (hT : (gl_t G)[0]? = some (cI, .int)) (h : hp_T) (a : Nat) (ha : a + 1 = h.1) (hA : h.2.2 a = some (.inr (6, [.null]))) : ct_E G m_Identities_init [.ref a] h (cn fun h' => nb h h' a 5 38 (id_b cI a)) := by
  refine ct_of (ws' := tb_all) rfl rfl (Nat.le_of_ble_eq_true rfl) ?_
  refine ev_aload_n d_Identities_init_0 rfl rfl ?_
  refine ev_objInit (List.mem_cons_of_mem _ tw_164) (List.mem_cons_of_mem _ tw_29) (List.mem_cons_of_mem _ tw_30) (by decide) (by decide) d_Identities_init_1 ?_
  have I0 := ci_start ha hA
  refine ev_child d_Identities_init_4 d_Identities_init_5 d_Identities_init_8 d_Identities_init_9 d_Identities_init_12 (fn_Identities_9 rfl rfl) ca_Identities_init_11 (fp_Identities_12 rfl rfl rfl) (fun _ => rfl) (fun _ => rfl) rfl (c_Texts_init hT) I0 (Nat.le_of_ble_eq_true rfl) (fun h2 I2 => ?_)
  refine ev_vret d_Identities_init_15 rfl ?_
  exact ⟨rfl, ci_end I2⟩
def dt_b (w : Nat) (_ : Nat) : Nat → va_E := bo (.inr (7, [.ref w, .int 0])) b0
theorem c_DateReader_init (w : Nat) (h : hp_T) (a : Nat) (ha : a + 1 = h.1) (hA : h.2.2 a = some (.inr (7, [.null, .int 0]))) : ct_E G m_DateReader_init [.ref a, .ref w] h (cn fun h' => nb h h' a 0 0 (dt_b w a)) := by
  refine ct_of (ws' := tb_all) rfl rfl (Nat.le_of_ble_eq_true rfl) ?_
  refine ev_aload_n d_DateReader_init_0 rfl rfl ?_
  refine ev_objInit (List.mem_cons_of_mem _ tw_176) (List.mem_cons_of_mem _ tw_29) (List.mem_cons_of_mem _ tw_30) (by decide) (by decide) d_DateReader_init_1 ?_
  have I0 := ci_start ha hA
  refine ev_aload_n d_DateReader_init_4 rfl rfl ?_
  refine ev_aload_n d_DateReader_init_5 rfl rfl ?_
  refine ev_put (fp_DateReader_11 rfl rfl rfl) d_DateReader_init_6 I0.2.2.2.1 (Nat.le_of_ble_eq_true rfl) rfl rfl ?_
  have I1 := ci_put (n := 0) (v := .ref w) I0
  refine ev_aload_n d_DateReader_init_9 rfl rfl ?_
  refine ev_iconst (v := 0) d_DateReader_init_10 (by decide) ?_
  refine ev_put (fp_DateReader_17 rfl rfl) d_DateReader_init_11 I1.2.2.2.1 (Nat.le_of_ble_eq_true rfl) rfl rfl ?_
  have I2 := ci_put (n := 1) (v := .int 0) I1
  refine ev_vret d_DateReader_init_14 rfl ?_
  exact ⟨rfl, ci_end I2⟩
def cty_b (cI : ClassId) (w a : Nat) : Nat → va_E := bo (.inr (8, [.ref w, .ref (a + 1), .ref (a + 6), .ref (a + 11), .ref (a + 16), .ref (a + 18), .ref (a + 20)])) (bj 19 (bj 17 (bj 15 (bj 10 (bj 5 (tx_b cI (a + 1)) (tx_b cI (a + 6))) (tx_b cI (a + 11))) (rw_b cI (a + 16))) (rw_b cI (a + 18))) (tx_b cI (a + 20)))
theorem c_ContentType_init (hT : (gl_t G)[0]? = some (cI, .int)) (w : Nat) (h : hp_T) (a : Nat) (ha : a + 1 = h.1) (hA : h.2.2 a = some (.inr (8, [.null, .null, .null, .null, .null, .null, .null]))) : ct_E G m_ContentType_init [.ref a, .ref w] h (cn fun h' => nb h h' a 24 188 (cty_b cI w a)) := by
  refine ct_of (ws' := tb_all) rfl rfl (Nat.le_of_ble_eq_true rfl) ?_
  refine ev_aload_n d_ContentType_init_0 rfl rfl ?_
  refine ev_objInit (List.mem_cons_of_mem _ tw_189) (List.mem_cons_of_mem _ tw_29) (List.mem_cons_of_mem _ tw_30) (by decide) (by decide) d_ContentType_init_1 ?_
  have I0 := ci_start ha hA
  refine ev_aload_n d_ContentType_init_4 rfl rfl ?_
  refine ev_aload_n d_ContentType_init_5 rfl rfl ?_
  refine ev_put (fp_ContentType_9 rfl rfl rfl) d_ContentType_init_6 I0.2.2.2.1 (Nat.le_of_ble_eq_true rfl) rfl rfl ?_
  have I1 := ci_put (n := 0) (v := .ref w) I0
  refine ev_child d_ContentType_init_9 d_ContentType_init_10 d_ContentType_init_13 d_ContentType_init_14 d_ContentType_init_17 (fn_ContentType_15 rfl rfl) ca_ContentType_init_17 (fp_ContentType_18 rfl rfl rfl) (fun _ => rfl) (fun _ => rfl) rfl (c_Texts_init hT) I1 (Nat.le_of_ble_eq_true rfl) (fun h2 I2 => ?_)
  refine ev_child d_ContentType_init_20 d_ContentType_init_21 d_ContentType_init_24 d_ContentType_init_25 d_ContentType_init_28 (fn_ContentType_15 rfl rfl) ca_ContentType_init_17 (fp_ContentType_22 rfl rfl rfl) (fun _ => rfl) (fun _ => rfl) rfl (c_Texts_init hT) I2 (Nat.le_of_ble_eq_true rfl) (fun h2 I2 => ?_)
  refine ev_child d_ContentType_init_31 d_ContentType_init_32 d_ContentType_init_35 d_ContentType_init_36 d_ContentType_init_39 (fn_ContentType_15 rfl rfl) ca_ContentType_init_17 (fp_ContentType_25 rfl rfl rfl) (fun _ => rfl) (fun _ => rfl) rfl (c_Texts_init hT) I2 (Nat.le_of_ble_eq_true rfl) (fun h2 I2 => ?_)
  refine ev_child d_ContentType_init_42 d_ContentType_init_43 d_ContentType_init_46 d_ContentType_init_47 d_ContentType_init_50 (fn_ContentType_28 rfl rfl) ca_ContentType_init_30 (fp_ContentType_31 rfl rfl rfl) (fun _ => rfl) (fun _ => rfl) rfl (c_Row_init hT) I2 (Nat.le_of_ble_eq_true rfl) (fun h2 I2 => ?_)
  refine ev_child d_ContentType_init_53 d_ContentType_init_54 d_ContentType_init_57 d_ContentType_init_58 d_ContentType_init_61 (fn_ContentType_28 rfl rfl) ca_ContentType_init_30 (fp_ContentType_35 rfl rfl rfl) (fun _ => rfl) (fun _ => rfl) rfl (c_Row_init hT) I2 (Nat.le_of_ble_eq_true rfl) (fun h2 I2 => ?_)
  refine ev_child d_ContentType_init_64 d_ContentType_init_65 d_ContentType_init_68 d_ContentType_init_69 d_ContentType_init_72 (fn_ContentType_15 rfl rfl) ca_ContentType_init_17 (fp_ContentType_38 rfl rfl rfl) (fun _ => rfl) (fun _ => rfl) rfl (c_Texts_init hT) I2 (Nat.le_of_ble_eq_true rfl) (fun h2 I2 => ?_)
  refine ev_vret d_ContentType_init_75 rfl ?_
  exact ⟨rfl, ci_end I2⟩
end CTORS2
