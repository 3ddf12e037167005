section MCALLS
variable {G : gl_G} {cI cZ : ClassId} {h : hp_T} {M : Nat} {I : Nat → Int32} {R : Nat → Nat → Int32}
/-- a new reference at M -/
abbrev mf (cI cZ : ClassId) (M : Nat) (h : hp_T) : Prop := mo_ov cI cZ h M mo_I0 (fun _ _ => 0) = h
/-- no cell, no slot more -/
abbrev gz (h h' : hp_T) : Prop := h'.1 = h.1 ∧ h'.2.1 = h.2.1
theorem mf_M (hm : mf cI cZ M h) : h.2.2 M = some (.inr (9, mo_obj M mo_I0)) := by rw [← hm]; exact mo_self
theorem mf_of {h1 : hp_T} (hm : mf cI cZ M h) (hk : ∀ q, M ≤ q → q ≤ M + 27 → h1.2.2 q = h.2.2 q) : mf cI cZ M h1 := by
  refine Prod.ext rfl (Prod.ext rfl (funext fun q => ?_))
  have e : (mo_ov cI cZ h M mo_I0 (fun _ _ => 0)).2.2 q = h.2.2 q := by rw [hm]
  show (if q = M then _ else if M < q ∧ q ≤ M + 27 then _ else h1.2.2 q) = h1.2.2 q
  by_cases hq : M ≤ q ∧ q ≤ M + 27
  · rw [hk q hq.1 hq.2, ← e]
    by_cases h2 : q = M
    · rw [if_pos h2]
      exact (if_pos h2).symm
    · rw [if_neg h2, if_pos (by omega)]
      exact ((if_neg h2).trans (if_pos (by omega))).symm
  · rw [if_neg (by omega), if_neg (by omega)]
theorem isF0 (f : Int32) : sp_isField 0 f = 0 := if_neg fun z => z.2 (Int32.not_lt.mp z.1)
theorem fdt_0 (f w : Int32) : fdt [] f w = none := by
  unfold fdt
  by_cases h : f < 0
  · rw [if_pos h]
  · rw [if_neg h]
    rfl
theorem prt_0 (w k : Int32) : prt (fun _ => []) w k = none := by
  unfold prt
  by_cases h : w < 0 ∨ 6 < w ∨ k < 0
  · rw [if_pos h]
  · rw [if_neg h]
    rfl
theorem pOk_0 : pOk (fun _ => []) (fun _ => 0) (fun _ _ => 0) := ⟨fun _ _ => ⟨rfl, Nat.zero_le _⟩, fun _ _ => ⟨rfl, Nat.zero_le _, fun k l hk => by simp at hk⟩⟩
theorem g_bad (hm : mf cI cZ M h) : ct_E G m_Model_bad [.ref M] h (cr fun v h' => v = .int 0 ∧ gz h h') := by
  have k := c_Model_bad (G := G) (cI := cI) (cZ := cZ) (h0 := h) (M := M) (I := mo_I0) (R := fun _ _ => 0)
  rw [hm] at k
  refine ct_to k ?_
  rintro o h' ⟨v, rfl, rfl, rfl⟩
  exact ⟨_, rfl, rfl, rfl, rfl⟩
theorem g_feed (hT : (gl_t G)[0]? = some (cI, .int)) (hm : mf cI cZ M h) (a b c d e : Int32) : ct_E G m_Model_feed [.ref M, .int a, .int b, .int c, .int d, .int e] h (cn fun h' => gz h h') := by
  have k := c_Model_feed (G := G) (cI := cI) (cZ := cZ) (h0 := h) (M := M) (I := mo_I0) hT (fun _ _ => 0) a b c d e
  rw [hm] at k
  refine ct_to k ?_
  rintro o h' ⟨rfl, rfl⟩
  exact ⟨rfl, rfl, rfl⟩
theorem g_end (hT : (gl_t G)[0]? = some (cI, .int)) (hm : mf cI cZ M h) (n : Int32) : ct_E G m_Model_end [.ref M, .int n] h (cr fun v h' => gz h h' ∧ ((¬ okE 0 n ∧ v = .int (-1)) ∨ ∃ m : Nat, m ≤ 20 ∧ n = nI m ∧ v = .int (nI m))) := by
  have k := c_Model_end (G := G) (cI := cI) (cZ := cZ) (h0 := h) (M := M) (I := mo_I0) hT (fun _ _ => 0) (tl := 0) rfl (by decide) n
  rw [hm] at k
  refine ct_to k ?_
  rintro o h' ⟨v, rfl, q⟩
  rcases q with ⟨q1, rfl, rfl⟩ | ⟨m, q1, q2, q3, rfl, rfl⟩
  · exact ⟨_, rfl, ⟨rfl, rfl⟩, Or.inl ⟨q1, rfl⟩⟩
  · exact ⟨_, rfl, ⟨rfl, rfl⟩, Or.inr ⟨m, q1, q3, by rw [Nat.zero_add]⟩⟩
theorem g_read (hT : (gl_t G)[0]? = some (cI, .int)) (hm : mf cI cZ M h) : ct_E G m_Model_read [.ref M] h (cr fun v h' => v = .int 0 ∧ gz h h') := by
  have k := c_Model_read (G := G) (cI := cI) (cZ := cZ) (h0 := h) (M := M) (I := mo_I0) (R := fun _ _ => 0) (T := []) hT (by decide) rfl (hol_nil _ _)
  rw [hm] at k
  refine ct_to k ?_
  rintro o h' ⟨v, rfl, rfl, -, -, -, R', rfl, -⟩
  exact ⟨_, rfl, rfl, rfl, rfl⟩
theorem g_find (hT : (gl_t G)[0]? = some (cI, .int)) (hm : mf cI cZ M h) : ct_E G m_Model_find [.ref M] h (cr fun v h' => v = .int (-1) ∧ gz h h') := by
  have k := c_Model_find (G := G) (cI := cI) (cZ := cZ) (h0 := h) (M := M) (I := mo_I0) (R := fun _ _ => 0) (F := []) (T := []) hT (flds_nil _) rfl (by decide) (by decide) (by decide) rfl (hol_nil _ _)
  rw [hm] at k
  refine ct_to k ?_
  rintro o h' ⟨v, rfl, rfl, rfl⟩
  exact ⟨_, rfl, rfl, rfl, rfl⟩
theorem g_field (hT : (gl_t G)[0]? = some (cI, .int)) (hm : mf cI cZ M h) (f w : Int32) : ct_E G m_Model_field [.ref M, .int f, .int w] h (cr fun v h' => v = .int (-1) ∧ gz h h') := by
  have k := c_Model_field (G := G) (cI := cI) (cZ := cZ) (h0 := h) (M := M) (I := mo_I0) (R := fun _ _ => 0) (F := []) hT (flds_nil _) rfl (by decide) f w
  rw [hm, fdt_0] at k
  refine ct_to k ?_
  rintro o h' ⟨v, rfl, rfl, rfl⟩
  exact ⟨_, rfl, rfl, rfl, rfl⟩
theorem g_fieldByte (hT : (gl_t G)[0]? = some (cI, .int)) (hm : mf cI cZ M h) (f w i : Int32) : ct_E G m_Model_fieldByte [.ref M, .int f, .int w, .int i] h (cr fun v h' => v = .int (-1) ∧ gz h h') := by
  have k := c_Model_fieldByte (G := G) (cI := cI) (cZ := cZ) (h0 := h) (M := M) (I := mo_I0) (R := fun _ _ => 0) (F := []) hT (flds_nil _) rfl (by decide) (by decide) f w i
  rw [hm, fdt_0] at k
  refine ct_to k ?_
  rintro o h' ⟨v, rfl, rfl, rfl⟩
  exact ⟨_, rfl, rfl, rfl, rfl⟩
theorem g_length (hT : (gl_t G)[0]? = some (cI, .int)) (hm : mf cI cZ M h) (w k : Int32) : ct_E G m_Model_length [.ref M, .int w, .int k] h (cr fun v h' => v = .int (-1) ∧ gz h h') := by
  have k := c_Model_length (G := G) (cI := cI) (cZ := cZ) (h0 := h) (M := M) (I := mo_I0) hT pOk_0 w k
  rw [hm, prt_0] at k
  refine ct_to k ?_
  rintro o h' ⟨v, rfl, rfl, rfl⟩
  exact ⟨_, rfl, rfl, rfl, rfl⟩
theorem g_at (hT : (gl_t G)[0]? = some (cI, .int)) (hm : mf cI cZ M h) (w k i : Int32) : ct_E G m_Model_at [.ref M, .int w, .int k, .int i] h (cr fun v h' => v = .int (-1) ∧ gz h h') := by
  have k := c_Model_at (G := G) (cI := cI) (cZ := cZ) (h0 := h) (M := M) (I := mo_I0) hT pOk_0 w k i
  rw [hm, prt_0] at k
  refine ct_to k ?_
  rintro o h' ⟨v, rfl, rfl, rfl⟩
  exact ⟨_, rfl, rfl, rfl, rfl⟩
theorem g_group (hT : (gl_t G)[0]? = some (cI, .int)) (hm : mf cI cZ M h) (w k : Int32) : ct_E G m_Model_group [.ref M, .int w, .int k] h (cr fun v h' => v = .int (if w = 0 then 0 else if w = 1 then 0 else if w = 2 then rg [] k else -1) ∧ gz h h') := by
  have k := c_Model_group (G := G) (cI := cI) (cZ := cZ) (h0 := h) (M := M) (I := mo_I0) hT pOk_0 (gs := []) (hol_nil _ _) rfl w k
  rw [hm] at k
  refine ct_to k ?_
  rintro o h' ⟨v, rfl, rfl, rfl⟩
  exact ⟨_, rfl, rfl, rfl, rfl⟩
theorem g_parameterByte (hT : (gl_t G)[0]? = some (cI, .int)) (hm : mf cI cZ M h) (b : Bool) (i : Int32) : ct_E G m_Model_parameterByte [.ref M, .int (bI b), .int i] h (cr fun v h' => v = .int (-1) ∧ gz h h') := by
  have k := c_Model_parameterByte (G := G) (cI := cI) (cZ := cZ) (h0 := h) (M := M) (I := mo_I0) (R := fun _ _ => 0) (hd := none) (ch := none) hT rfl rfl (fun l hl => by cases hl) (fun l hl => by cases hl) b i
  rw [hm] at k
  refine ct_to k ?_
  rintro o h' ⟨v, rfl, rfl, rfl⟩
  refine ⟨_, rfl, ?_, rfl, rfl⟩
  cases b <;> rfl
theorem g_identities (hT : (gl_t G)[0]? = some (cI, .int)) (hm : mf cI cZ M h) (f : Int32) : ct_E G m_Model_identities [.ref M, .int f] h (cr fun v h' => v = .int 0 ∧ h' = mo_ov cI cZ h M (upd mo_I0 0 1) (fun _ _ => 0)) := by
  have k := c_Model_identities (G := G) (cI := cI) (cZ := cZ) (h0 := h) (M := M) (I := mo_I0) hT (flds_nil _) rfl (by decide) (by decide) pOk_0 f
  rw [hm] at k
  refine ct_to k ?_
  rintro o h' ⟨v, rfl, q⟩
  rcases q with ⟨-, q2, q3⟩ | ⟨j, q, -, q2, -⟩
  · exact ⟨_, rfl, q2, q3⟩
  · simp at q2
theorem c_Model_addresses0 (hI : I 4 = 0) (f : Int32) : ct_E G m_Model_addresses [.ref M, .int f] (mo_ov cI cZ h M I R) (cr fun v h' => v = .int 0 ∧ h' = mo_ov cI cZ h M (upd I 0 1) R) := by
  refine ct_of (ws' := tb_all) rfl rfl (Nat.le_of_ble_eq_true rfl) ?_
  refine ev_aload_n d_Model_addresses_0 rfl rfl ?_
  refine ev_aload_n d_Model_addresses_1 rfl rfl ?_
  refine ev_iload_n d_Model_addresses_2 rfl rfl ?_
  refine mo_Vv [.int f] [.ref M] ca_Model_addresses_137 d_Model_addresses_3 rfl (Nat.le_of_ble_eq_true rfl) (c_Model_isField f) ?_
  rw [hI, isF0]
  refine ev_if_eq (tgt := 13) d_Model_addresses_6 (by decide) (fun _ => ?_) (fun z => absurd rfl z)
  refine ev_iconst (v := 1) d_Model_addresses_13 (by decide) ?_
  refine mo_put (fp_Model_99 rfl rfl) d_Model_addresses_14 (Nat.le_of_ble_eq_true rfl) rfl rfl rfl ?_
  refine ev_aload_n d_Model_addresses_17 rfl rfl ?_
  refine mo_get (fa_Model_99 rfl rfl) d_Model_addresses_18 rfl ?_
  refine ev_if_eq (tgt := 26) d_Model_addresses_21 (by decide) (fun z => absurd (show (1 : Int32) = 0 from z) (by decide)) (fun _ => ?_)
  refine ev_iconst (v := 0) d_Model_addresses_24 (by decide) ?_
  refine ev_iret d_Model_addresses_25 rfl ?_
  exact ⟨_, rfl, rfl, rfl⟩
theorem c_Model_date0 (hI : I 4 = 0) (f : Int32) : ct_E G m_Model_date [.ref M, .int f] (mo_ov cI cZ h M I R) (cr fun v h' => v = .long 0 ∧ h' = mo_ov cI cZ h M (upd I 0 1) R) := by
  refine ct_of (ws' := tb_all) rfl rfl (Nat.le_of_ble_eq_true rfl) ?_
  refine ev_ldc2 (v := (-9223372036854775808)) (List.mem_cons_of_mem _ tw_1251) d_Model_date_0 ?_
  refine ev_lstore_n d_Model_date_3 rfl (by decide) ?_
  refine ev_aload_n d_Model_date_4 rfl rfl ?_
  refine ev_aload_n d_Model_date_5 rfl rfl ?_
  refine ev_iload_n d_Model_date_6 rfl rfl ?_
  refine mo_Vv [.int f] [.ref M] ca_Model_date_137 d_Model_date_7 rfl (Nat.le_of_ble_eq_true rfl) (c_Model_isField f) ?_
  rw [hI, isF0]
  refine ev_if_eq (tgt := 17) d_Model_date_10 (by decide) (fun _ => ?_) (fun z => absurd rfl z)
  refine ev_iconst (v := 1) d_Model_date_17 (by decide) ?_
  refine mo_put (fp_Model_99 rfl rfl) d_Model_date_18 (Nat.le_of_ble_eq_true rfl) rfl rfl rfl ?_
  refine ev_aload_n d_Model_date_21 rfl rfl ?_
  refine mo_get (fa_Model_99 rfl rfl) d_Model_date_22 rfl ?_
  refine ev_if_eq (tgt := 30) d_Model_date_25 (by decide) (fun z => absurd (show (1 : Int32) = 0 from z) (by decide)) (fun _ => ?_)
  refine ev_lconst (v := 0) d_Model_date_28 (by decide) ?_
  refine ev_lret d_Model_date_29 rfl ?_
  exact ⟨_, rfl, rfl, rfl⟩
theorem c_Model_type0 (hI : I 4 = 0) (f : Int32) : ct_E G m_Model_type [.ref M, .int f] (mo_ov cI cZ h M I R) (cr fun v h' => v = .int 0 ∧ h' = mo_ov cI cZ h M (upd I 0 1) R) := by
  refine ct_of (ws' := tb_all) rfl rfl (Nat.le_of_ble_eq_true rfl) ?_
  refine ev_aload_n d_Model_type_0 rfl rfl ?_
  refine ev_aload_n d_Model_type_1 rfl rfl ?_
  refine ev_iload_n d_Model_type_2 rfl rfl ?_
  refine mo_Vv [.int f] [.ref M] ca_Model_type_137 d_Model_type_3 rfl (Nat.le_of_ble_eq_true rfl) (c_Model_isField f) ?_
  rw [hI, isF0]
  refine ev_if_eq (tgt := 13) d_Model_type_6 (by decide) (fun _ => ?_) (fun z => absurd rfl z)
  refine ev_iconst (v := 1) d_Model_type_13 (by decide) ?_
  refine mo_put (fp_Model_99 rfl rfl) d_Model_type_14 (Nat.le_of_ble_eq_true rfl) rfl rfl rfl ?_
  refine ev_aload_n d_Model_type_17 rfl rfl ?_
  refine mo_get (fa_Model_99 rfl rfl) d_Model_type_18 rfl ?_
  refine ev_if_eq (tgt := 26) d_Model_type_21 (by decide) (fun z => absurd (show (1 : Int32) = 0 from z) (by decide)) (fun _ => ?_)
  refine ev_iconst (v := 0) d_Model_type_24 (by decide) ?_
  refine ev_zret d_Model_type_25 rfl rfl ?_
  exact ⟨_, rfl, rfl, rfl⟩
theorem c_Model_parameter0 (hT : (gl_t G)[0]? = some (cI, .int)) (hI3 : I 3 = 0) (hI27 : I 27 = 0) : ct_E G m_Model_parameter [.ref M] (mo_ov cI cZ h M I R) (cr fun v h' => v = .int (-1) ∧ gz h h') := by
  have hQ : pmOk [] (upd (upd (upd (upd I 0 0) 3 0) 37 (-1)) 38 (-1)) R := ⟨hI27, by decide, by decide, fun i q hq => by simp at hq⟩
  refine ct_of (ws' := tb_all) rfl rfl (Nat.le_of_ble_eq_true rfl) ?_
  refine ev_aload_n d_Model_parameter_0 rfl rfl ?_
  refine ev_iconst (v := 0) d_Model_parameter_1 (by decide) ?_
  refine mo_put (fp_Model_99 rfl rfl) d_Model_parameter_2 (Nat.le_of_ble_eq_true rfl) rfl rfl rfl ?_
  refine ev_aload_n d_Model_parameter_5 rfl rfl ?_
  refine mo_get (fa_Model_106 rfl rfl) d_Model_parameter_6 rfl ?_
  rw [show upd I 0 0 3 = nI ([] : List Int32).length from hI3]
  refine ev_istore_n d_Model_parameter_9 rfl (by decide) ?_
  refine ev_aload_n d_Model_parameter_10 rfl rfl ?_
  refine ev_iconst (v := 0) d_Model_parameter_11 (by decide) ?_
  refine mo_put (fp_Model_106 rfl rfl) d_Model_parameter_12 (Nat.le_of_ble_eq_true rfl) rfl rfl rfl ?_
  refine ev_aload_n d_Model_parameter_15 rfl rfl ?_
  refine ev_iconst (v := (-1)) d_Model_parameter_16 (by decide) ?_
  refine mo_put (fp_Model_92 rfl rfl) d_Model_parameter_17 (Nat.le_of_ble_eq_true rfl) rfl rfl rfl ?_
  refine ev_aload_n d_Model_parameter_20 rfl rfl ?_
  refine ev_iconst (v := (-1)) d_Model_parameter_21 (by decide) ?_
  refine mo_put (fp_Model_96 rfl rfl) d_Model_parameter_22 (Nat.le_of_ble_eq_true rfl) rfl rfl rfl ?_
  refine ev_aload_n d_Model_parameter_25 rfl rfl ?_
  refine ev_iload_n d_Model_parameter_26 rfl rfl ?_
  refine ev_iconst (v := (-1)) d_Model_parameter_27 (by decide) ?_
  refine mo_Vv [.int (nI ([] : List Int32).length), .int (-1)] [] ca_Model_parameter_365 d_Model_parameter_28 rfl (Nat.le_of_ble_eq_true rfl) (c_Model_parameterOf hT hQ (by decide) (hol_nil _ _) (-1)) ?_
  refine ev_istore_n d_Model_parameter_31 rfl (by decide) ?_
  refine ev_iload_n d_Model_parameter_32 rfl rfl ?_
  refine ev_iconst (v := (-1)) d_Model_parameter_33 (by decide) ?_
  refine ev_icmp_eq (tgt := 41) d_Model_parameter_34 (by decide) (fun _ => ?_) (fun z => absurd rfl z)
  refine ev_iconst (v := 0) d_Model_parameter_41 (by decide) ?_
  refine ev_istore_n d_Model_parameter_42 rfl (by decide) ?_
  refine ev_iload_n d_Model_parameter_43 rfl rfl ?_
  refine ev_if_ne (tgt := 54) d_Model_parameter_44 (by decide) (fun z => absurd rfl z) (fun _ => ?_)
  refine ev_aload_n d_Model_parameter_47 rfl rfl ?_
  refine ev_iload_n d_Model_parameter_48 rfl rfl ?_
  refine ev_iconst (v := 0) d_Model_parameter_49 (by decide) ?_
  refine mo_Vv [.int (nI ([] : List Int32).length), .int 0] [] ca_Model_parameter_365 d_Model_parameter_50 rfl (Nat.le_of_ble_eq_true rfl) (c_Model_parameterOf hT hQ (by decide) (hol_nil _ _) 0) ?_
  refine ev_istore_n d_Model_parameter_53 rfl (by decide) ?_
  refine ev_iload_n d_Model_parameter_54 rfl rfl ?_
  refine ev_iconst (v := (-1)) d_Model_parameter_55 (by decide) ?_
  refine ev_icmp_ne (tgt := 61) d_Model_parameter_56 (by decide) (fun z => absurd rfl z) (fun _ => ?_)
  refine ev_iconst (v := (-1)) d_Model_parameter_59 (by decide) ?_
  refine ev_iret d_Model_parameter_60 rfl ?_
  exact ⟨_, rfl, rfl, rfl, rfl⟩
theorem g_addresses (hm : mf cI cZ M h) (f : Int32) : ct_E G m_Model_addresses [.ref M, .int f] h (cr fun v h' => v = .int 0 ∧ h' = mo_ov cI cZ h M (upd mo_I0 0 1) (fun _ _ => 0)) := by
  have k := c_Model_addresses0 (G := G) (cI := cI) (cZ := cZ) (h := h) (M := M) (I := mo_I0) (R := fun _ _ => 0) rfl f
  rw [hm] at k
  exact k
theorem g_date (hm : mf cI cZ M h) (f : Int32) : ct_E G m_Model_date [.ref M, .int f] h (cr fun v h' => v = .long 0 ∧ h' = mo_ov cI cZ h M (upd mo_I0 0 1) (fun _ _ => 0)) := by
  have k := c_Model_date0 (G := G) (cI := cI) (cZ := cZ) (h := h) (M := M) (I := mo_I0) (R := fun _ _ => 0) rfl f
  rw [hm] at k
  exact k
theorem g_type (hm : mf cI cZ M h) (f : Int32) : ct_E G m_Model_type [.ref M, .int f] h (cr fun v h' => v = .int 0 ∧ h' = mo_ov cI cZ h M (upd mo_I0 0 1) (fun _ _ => 0)) := by
  have k := c_Model_type0 (G := G) (cI := cI) (cZ := cZ) (h := h) (M := M) (I := mo_I0) (R := fun _ _ => 0) rfl f
  rw [hm] at k
  exact k
theorem g_parameter (hT : (gl_t G)[0]? = some (cI, .int)) (hm : mf cI cZ M h) : ct_E G m_Model_parameter [.ref M] h (cr fun v h' => v = .int (-1) ∧ gz h h') := by
  have k := c_Model_parameter0 (G := G) (cI := cI) (cZ := cZ) (h := h) (M := M) (I := mo_I0) (R := fun _ _ => 0) hT rfl rfl
  rw [hm] at k
  exact k
end MCALLS
