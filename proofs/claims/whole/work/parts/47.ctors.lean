section CTORS
variable {G : gl_G} {cI : ClassId}
/-- add where there is room, to the letter -/
theorem c_Row_put (hT : (gl_t G)[0]? = some (cI, .int)) {h : hp_T} {a c cap n : Nat} {f : Nat → Int32} (hA : h.2.2 a = some (.inr (1, [.ref c, .int (nI n)]))) (hC : h.2.2 c = some (.inl (cI, cap, .inl f))) (x : Int32) (hn : n < cap) (hcap : cap ≤ 4096) : ct_E G m_Row_add [.ref a, .int x] h (cn fun h' => h' = hp_up (hp_up h c (.inl (cI, cap, .inl (upd f n x)))) a (.inr (1, [.ref c, .int (nI (n + 1))]))) := by
  have hac : a ≠ c := fun z => by rw [z, hC] at hA; cases hA
  refine ct_of (ws' := tb_all) rfl rfl (Nat.le_of_ble_eq_true rfl) ?_
  refine ev_aload_n d_Row_add_0 rfl rfl ?_
  refine ev_get (fa_Row_15 rfl rfl) d_Row_add_1 hA rfl ?_
  refine ev_sipush (v := 4096) d_Row_add_4 (by decide) ?_
  refine ev_icmp_lt (tgt := 11) d_Row_add_7 (by decide) (fun c_7 => ?_) (fun c_7 => absurd (nI_lt (a := n) (b := 4096) (by omega) (by omega)) c_7)
  refine ev_aload_n d_Row_add_11 rfl rfl ?_
  refine ev_get (fa_Row_15 rfl rfl) d_Row_add_12 hA rfl ?_
  refine ev_aload_n d_Row_add_15 rfl rfl ?_
  refine ev_get (fa_Row_11 rfl rfl) d_Row_add_16 hA rfl ?_
  refine ev_alen hT hC d_Row_add_19 ?_
  refine ev_icmp_lt (tgt := 40) d_Row_add_20 (by decide) (fun c_20 => ?_) (fun c_20 => absurd (nI_lt hn (by omega)) c_20)
  refine ev_aload_n d_Row_add_40 rfl rfl ?_
  refine ev_get (fa_Row_11 rfl rfl) d_Row_add_41 hA rfl ?_
  refine ev_aload_n d_Row_add_44 rfl rfl ?_
  refine ev_get (fa_Row_15 rfl rfl) d_Row_add_45 hA rfl ?_
  refine ev_iload_n d_Row_add_48 rfl rfl ?_
  refine ev_iast hT hC (vp_in_nI hn (by omega)) d_Row_add_49 ?_
  have hA2 : (hp_up h c (.inl (cI, cap, .inl (upd f (nI n).toNatClampNeg x)))).2.2 a = some (.inr (1, [.ref c, .int (nI n)])) := by rw [hp_up_ne hac]; exact hA
  refine ev_aload_n d_Row_add_50 rfl rfl ?_
  refine ev_dup d_Row_add_51 rfl ?_
  refine ev_get (fa_Row_15 rfl rfl) d_Row_add_52 hA2 rfl ?_
  refine ev_iconst (v := 1) d_Row_add_55 (by decide) ?_
  refine ev_iadd d_Row_add_56 ?_
  refine ev_put (fp_Row_15 rfl rfl) d_Row_add_57 hA2 (Nat.le_of_ble_eq_true rfl) rfl rfl ?_
  refine ev_vret d_Row_add_60 rfl ?_
  refine ⟨rfl, ?_⟩
  rw [nI_clamp (by omega), nI_1]
  rfl
theorem c_Texts_init (hT : (gl_t G)[0]? = some (cI, .int)) (h : hp_T) (a : Nat) (ha : a + 1 = h.1) (hA : h.2.2 a = some (.inr (3, [.null, .null]))) : ct_E G m_Texts_init [.ref a] h (cn fun h' => nb h h' a 4 36 (tx_b cI a)) := by
  refine ct_of (ws' := tb_all) rfl rfl (Nat.le_of_ble_eq_true rfl) ?_
  refine ev_aload_n d_Texts_init_0 rfl rfl ?_
  refine ev_objInit (List.mem_cons_of_mem _ tw_56) (List.mem_cons_of_mem _ tw_29) (List.mem_cons_of_mem _ tw_30) (by decide) (by decide) d_Texts_init_1 ?_
  have I0 := ci_start ha hA
  refine ev_child d_Texts_init_4 d_Texts_init_5 d_Texts_init_8 d_Texts_init_9 d_Texts_init_12 (fn_Texts_9 rfl rfl) ca_Texts_init_11 (fp_Texts_12 rfl rfl rfl) (fun _ => rfl) (fun _ => rfl) rfl (c_Row_init hT) I0 (Nat.le_of_ble_eq_true rfl) (fun h2 I2 => ?_)
  refine ev_child d_Texts_init_15 d_Texts_init_16 d_Texts_init_19 d_Texts_init_20 d_Texts_init_23 (fn_Texts_9 rfl rfl) ca_Texts_init_11 (fp_Texts_18 rfl rfl rfl) (fun _ => rfl) (fun _ => rfl) rfl (c_Row_init hT) I2 (Nat.le_of_ble_eq_true rfl) (fun h2 I2 => ?_)
  obtain ⟨-, i2, i3, i4, i5, i6⟩ := I2
  have hb : h2.2.2 (a + 3) = some (.inr (1, [.ref (a + 4), .int (nI 0)])) := i5 2 (by decide)
  have hc : h2.2.2 (a + 4) = some (.inl (cI, 16, .inl (fun _ => 0))) := i5 3 (by decide)
  refine ev_aload_n d_Texts_init_26 rfl rfl ?_
  refine ev_get (fa_Texts_18 rfl rfl) d_Texts_init_27 i4 rfl ?_
  refine ev_iconst (v := 0) d_Texts_init_30 (by decide) ?_
  refine ev_Vn (ci := 1) [.int 0] [] ca_Texts_init_21 d_Texts_init_31 rfl (hb) rfl (Nat.le_of_ble_eq_true rfl) (c_Row_put hT hb hc 0 (by decide) (by decide)) (fun h1 z => ?_)
  subst z
  refine ev_vret d_Texts_init_34 rfl ?_
  have hu : upd (fun _ => (0 : Int32)) 0 0 = fun _ => 0 := by
    funext j
    unfold upd
    split <;> rfl
  rw [hu]
  refine ⟨rfl, by show h2.1 = _; omega, by show h2.2.1 = _; omega, fun k hk => ?_, fun q hq => ?_⟩
  · have hk5 : k = 0 ∨ k = 1 ∨ k = 2 ∨ k = 3 ∨ k = 4 := by omega
    rcases hk5 with rfl | rfl | rfl | rfl | rfl
    · rw [hp_up_ne (by omega), hp_up_ne (by omega)]
      exact i4
    · rw [hp_up_ne (by omega), hp_up_ne (by omega)]
      exact i5 0 (by decide)
    · rw [hp_up_ne (by omega), hp_up_ne (by omega)]
      exact i5 1 (by decide)
    · rw [hp_up_self]
      rfl
    · rw [hp_up_ne (by omega), hp_up_self]
      rfl
  · rw [hp_up_ne (by omega), hp_up_ne (by omega)]
    exact i6 q hq
def hd_b (cI : ClassId) (a : Nat) : Nat → va_E := bo (.inr (2, [.ref (a + 1), .int 0, .int 0])) (tx_b cI (a + 1))
theorem c_Head_init (hT : (gl_t G)[0]? = some (cI, .int)) (h : hp_T) (a : Nat) (ha : a + 1 = h.1) (hA : h.2.2 a = some (.inr (2, [.null, .int 0, .int 0]))) : ct_E G m_Head_init [.ref a] h (cn fun h' => nb h h' a 5 38 (hd_b cI a)) := by
  refine ct_of (ws' := tb_all) rfl rfl (Nat.le_of_ble_eq_true rfl) ?_
  refine ev_aload_n d_Head_init_0 rfl rfl ?_
  refine ev_objInit (List.mem_cons_of_mem _ tw_50) (List.mem_cons_of_mem _ tw_29) (List.mem_cons_of_mem _ tw_30) (by decide) (by decide) d_Head_init_1 ?_
  have I0 := ci_start ha hA
  refine ev_child d_Head_init_4 d_Head_init_5 d_Head_init_8 d_Head_init_9 d_Head_init_12 (fn_Head_9 rfl rfl) ca_Head_init_11 (fp_Head_12 rfl rfl rfl) (fun _ => rfl) (fun _ => rfl) rfl (c_Texts_init hT) I0 (Nat.le_of_ble_eq_true rfl) (fun h2 I2 => ?_)
  have I3 := ci_put (n := 1) (v := .int 0) I2
  refine ev_aload_n d_Head_init_15 rfl rfl ?_
  refine ev_iconst (v := 0) d_Head_init_16 (by decide) ?_
  refine ev_put (fp_Head_18 rfl rfl) d_Head_init_17 I2.2.2.2.1 (Nat.le_of_ble_eq_true rfl) rfl rfl ?_
  refine ev_aload_n d_Head_init_20 rfl rfl ?_
  refine ev_iconst (v := 0) d_Head_init_21 (by decide) ?_
  refine ev_put (fp_Head_22 rfl rfl) d_Head_init_22 (hp_up_self _ _ _) (Nat.le_of_ble_eq_true rfl) rfl rfl ?_
  refine ev_vret d_Head_init_25 rfl ?_
  have I4 := ci_end (ci_put (n := 2) (v := .int 0) I3)
  exact ⟨rfl, I4⟩
end CTORS
