section MAILCTOR
variable {G : gl_G} {cI : ClassId} {str : Nat}
theorem ci_arr {h0 h : hp_T} {a cp K N n len : Nat} {pf : List Value} {B : Nat → va_E} {e : va_E} (I : ci_I h0 h a cp pf K N B) : (hp_add h len e).2.2 a = some (.inr (cp, pf)) ∧ h.1 = a + 1 + K ∧ ci_I h0 (hp_up (hp_add h len e) a (.inr (cp, pf.set n (.ref h.1)))) a cp (pf.set n (.ref h.1)) (K + 1) (N + len) (bj K B (fun _ => e)) := by
  obtain ⟨h1, i2, i3, i4, i5, i6⟩ := I
  refine ⟨by rw [hp_add_ne (by omega)]; exact i4, by omega, h1, ?_, ?_, hp_up_self _ _ _, fun k hk => ?_, fun q hq => ?_⟩
  · show h.1 + 1 = _; omega
  · show h.2.1 + len = _; omega
  · rw [hp_up_ne (by omega)]
    unfold bj
    by_cases hkK : k < K
    · rw [if_pos hkK, hp_add_ne (by omega)]
      exact i5 k hkK
    · rw [if_neg hkK, show a + 1 + k = h.1 by omega, hp_add_self]
  · rw [hp_up_ne (by omega), hp_add_ne (by omega)]
    exact i6 q hq
def ml_o (a : Nat) : va_E := .inr (0, [.ref (a + 1), .ref (a + 2), .ref (a + 4), .ref (a + 10), .ref (a + 18), .ref (a + 33), .ref (a + 39), .ref (a + 40), .ref (a + 65)])
def ml_b (cI : ClassId) (str a : Nat) : Nat → va_E := bo (ml_o a) (bj 64 (bj 39 (bj 38 (bj 32 (bj 17 (bj 9 (bj 3 (bj 1 (fun _ => .inl (cI, 5, .inl (fun _ => 0))) (rw_b cI (a + 2))) (hd_b cI (a + 4))) (wd_b cI str (a + 10))) (ad_b cI (a + 10) (a + 18))) (id_b cI (a + 33))) (dt_b (a + 10) (a + 39))) (cty_b cI (a + 10) (a + 40))) (tx_b cI (a + 65)))
theorem c_Mail_init (hT : (gl_t G)[0]? = some (cI, .int)) (hS : gl_sg G str) (h : hp_T) (a : Nat) (ha : a + 1 = h.1) (hA : h.2.2 a = some (.inr (0, [.null, .null, .null, .null, .null, .null, .null, .null, .null]))) : ct_E G m_Mail_init [.ref a] h (cn fun h' => nb h h' a 69 519 (ml_b cI str a)) := by
  refine ct_of (ws' := tb_all) rfl rfl (Nat.le_of_ble_eq_true rfl) ?_
  refine ev_aload_n d_Mail_init_0 rfl rfl ?_
  refine ev_objInit (List.mem_cons_of_mem _ tw_28) (List.mem_cons_of_mem _ tw_29) (List.mem_cons_of_mem _ tw_30) (by decide) (by decide) d_Mail_init_1 ?_
  refine ev_aload_n d_Mail_init_4 rfl rfl ?_
  refine ev_iconst (v := 5) d_Mail_init_5 (by decide) ?_
  refine ev_newa (atype := .int) (t0 := 0) (N := 5) (cA := cI) (a0 := (5, .inl (fun _ => 0))) (fun _ => rfl) (List.mem_cons_of_mem _ tw_44) hT (by decide) (by decide) (by decide) d_Mail_init_6 ?_
  have I0 := ci_start ha hA
  obtain ⟨g1, g2, I1⟩ := ci_arr (n := 0) (len := 5) (e := .inl (cI, 5, .inl (fun _ => 0))) I0
  rw [g2] at I1
  refine ev_put (fp_Mail_9 rfl rfl rfl) d_Mail_init_8 g1 (Nat.le_of_ble_eq_true rfl) rfl rfl ?_
  rw [g2]
  refine ev_child d_Mail_init_11 d_Mail_init_12 d_Mail_init_15 d_Mail_init_16 d_Mail_init_19 (fn_Mail_13 rfl rfl) ca_Mail_init_15 (fp_Mail_16 rfl rfl rfl) (fun _ => rfl) (fun _ => rfl) rfl (c_Row_init hT) I1 (Nat.le_of_ble_eq_true rfl) (fun h2 I2 => ?_)
  refine ev_child d_Mail_init_22 d_Mail_init_23 d_Mail_init_26 d_Mail_init_27 d_Mail_init_30 (fn_Mail_20 rfl rfl) ca_Mail_init_22 (fp_Mail_23 rfl rfl rfl) (fun _ => rfl) (fun _ => rfl) rfl (c_Head_init hT) I2 (Nat.le_of_ble_eq_true rfl) (fun h2 I2 => ?_)
  refine ev_child d_Mail_init_33 d_Mail_init_34 d_Mail_init_37 d_Mail_init_38 d_Mail_init_41 (fn_Mail_27 rfl rfl) ca_Mail_init_29 (fp_Mail_30 rfl rfl rfl) (fun _ => rfl) (fun _ => rfl) rfl (c_Words_init hT hS) I2 (Nat.le_of_ble_eq_true rfl) (fun h2 I2 => ?_)
  refine ev_child1 d_Mail_init_44 d_Mail_init_45 d_Mail_init_48 d_Mail_init_49 d_Mail_init_50 d_Mail_init_53 d_Mail_init_56 (fn_Mail_34 rfl rfl) (fa_Mail_30 rfl rfl) rfl ca_Mail_init_36 (fp_Mail_39 rfl rfl rfl) (fun _ => rfl) (fun _ => rfl) rfl (c_Addresses_init hT _) I2 (Nat.le_of_ble_eq_true rfl) (fun h2 I2 => ?_)
  refine ev_child d_Mail_init_59 d_Mail_init_60 d_Mail_init_63 d_Mail_init_64 d_Mail_init_67 (fn_Mail_43 rfl rfl) ca_Mail_init_45 (fp_Mail_46 rfl rfl rfl) (fun _ => rfl) (fun _ => rfl) rfl (c_Identities_init hT) I2 (Nat.le_of_ble_eq_true rfl) (fun h2 I2 => ?_)
  refine ev_child1 d_Mail_init_70 d_Mail_init_71 d_Mail_init_74 d_Mail_init_75 d_Mail_init_76 d_Mail_init_79 d_Mail_init_82 (fn_Mail_50 rfl rfl) (fa_Mail_30 rfl rfl) rfl ca_Mail_init_52 (fp_Mail_53 rfl rfl rfl) (fun _ => rfl) (fun _ => rfl) rfl (c_DateReader_init _) I2 (Nat.le_of_ble_eq_true rfl) (fun h2 I2 => ?_)
  refine ev_child1 d_Mail_init_85 d_Mail_init_86 d_Mail_init_89 d_Mail_init_90 d_Mail_init_91 d_Mail_init_94 d_Mail_init_97 (fn_Mail_57 rfl rfl) (fa_Mail_30 rfl rfl) rfl ca_Mail_init_59 (fp_Mail_60 rfl rfl rfl) (fun _ => rfl) (fun _ => rfl) rfl (c_ContentType_init hT _) I2 (Nat.le_of_ble_eq_true rfl) (fun h2 I2 => ?_)
  refine ev_child d_Mail_init_100 d_Mail_init_101 d_Mail_init_104 d_Mail_init_105 d_Mail_init_108 (fn_Mail_64 rfl rfl) ca_Mail_init_66 (fp_Mail_67 rfl rfl rfl) (fun _ => rfl) (fun _ => rfl) rfl (c_Texts_init hT) I2 (Nat.le_of_ble_eq_true rfl) (fun h2 I2 => ?_)
  refine ev_vret d_Mail_init_111 rfl ?_
  exact ⟨rfl, ci_end I2⟩
end MAILCTOR
