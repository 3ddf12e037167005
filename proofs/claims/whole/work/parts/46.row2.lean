theorem tw_7 : Cond.initialized "java/lang/System" ∈ tb_all := tb_in 99 (by decide +kernel) rfl
theorem tw_76 : Cond.methodLink "java/util/Arrays" 150 arraycopyName ∈ tb_all := tb_in 168 (by decide +kernel) rfl
theorem tw_77 : Cond.static arraycopyName ∈ tb_all := tb_in 169 (by decide +kernel) rfl
theorem tw_78 : Cond.native arraycopyName ∈ tb_all := tb_in 170 (by decide +kernel) rfl
section ROW2
variable {G : gl_G} {cI : ClassId}
theorem c_copyOf (hT : (gl_t G)[0]? = some (cI, .int)) {h : hp_T} {c cap N : Nat} {f : Nat → Int32} (hC : h.2.2 c = some (.inl (cI, cap, .inl f))) (hlt : c < h.1) (h1 : cap < N) (h2 : N < 2 ^ 20) : ct_E G m_Arrays_copyOf [.ref c, .int (nI N)] h (cr fun v h' => v = .ref h.1 ∧ h' = hp_up (hp_add h N (.inl (cI, N, .inl (fun _ => 0)))) h.1 (.inl (cI, N, .inl (va_cpy f (fun _ => 0) 0 0 cap)))) := by
  refine ct_of (ws' := tb_all) rfl rfl (Nat.le_of_ble_eq_true rfl) ?_
  refine ev_iload_n d_Arrays_copyOf_0 rfl rfl ?_
  refine ev_aload_n d_Arrays_copyOf_1 rfl rfl ?_
  refine ev_alen hT hC d_Arrays_copyOf_2 ?_
  refine ev_icmp_ne (tgt := 14) d_Arrays_copyOf_3 (by decide) (fun c_3 => ?_) (fun c_3 => absurd ((nI_eq (by omega) (by omega)).mp c_3) (by omega))
  refine ev_iload_n d_Arrays_copyOf_14 rfl rfl ?_
  refine ev_newa (atype := .int) (t0 := 0) (N := N) (cA := cI) (a0 := (N, .inl (fun _ => 0))) (fun _ => rfl) (List.mem_cons_of_mem _ tw_44) hT (nI_pos (by omega)) (nI_clamp (by omega)) (by show N * 4 ≤ _; omega) d_Arrays_copyOf_15 ?_
  have hC' : (hp_add h N (.inl (cI, N, .inl (fun _ => 0)))).2.2 c = some (.inl (cI, cap, .inl f)) := by rw [hp_add_ne (by omega)]; exact hC
  refine ev_astore_n d_Arrays_copyOf_17 rfl (by decide) ?_
  refine ev_aload_n d_Arrays_copyOf_18 rfl rfl ?_
  refine ev_iconst (v := 0) d_Arrays_copyOf_19 (by decide) ?_
  refine ev_aload_n d_Arrays_copyOf_20 rfl rfl ?_
  refine ev_iconst (v := 0) d_Arrays_copyOf_21 (by decide) ?_
  refine ev_aload_n d_Arrays_copyOf_22 rfl rfl ?_
  refine ev_alen hT hC' d_Arrays_copyOf_23 ?_
  refine ev_iload_n d_Arrays_copyOf_24 rfl rfl ?_
  refine ev_mmin (List.mem_cons_of_mem _ tw_73) (List.mem_cons_of_mem _ tw_74) (List.mem_cons_of_mem _ tw_6) (List.mem_cons_of_mem _ tw_75) (by decide) (Nat.le_of_ble_eq_true rfl) d_Arrays_copyOf_25 ?_
  rw [if_neg (fun z => by have := (nI_ltI (by omega) (by omega)).mp z; omega)]
  refine ev_copyi hT hC' (hp_add_self _ _ _) (Nat.le_refl _) (Nat.le_of_lt h1) (by omega) (List.mem_cons_of_mem _ tw_76) (List.mem_cons_of_mem _ tw_78) (List.mem_cons_of_mem _ tw_77) (List.mem_cons_of_mem _ tw_7) (by decide) (by decide) d_Arrays_copyOf_28 ?_
  refine ev_aload_n d_Arrays_copyOf_31 rfl rfl ?_
  refine ev_aret d_Arrays_copyOf_32 rfl (Or.inr ⟨_, rfl⟩) ?_
  exact ⟨_, rfl, rfl, rfl⟩
theorem c_Row_add (hT : (gl_t G)[0]? = some (cI, .int)) {h : hp_T} {a c cap : Nat} {xs : List Int32} (hr : rw_at cI h a c cap xs) (x : Int32) (ha : a < h.1) (hc : c < h.1) (hx : xs.length < 4096) (hg : xs.length = cap → 1 ≤ cap ∧ 2 * cap ≤ 4096) : ct_E G m_Row_add [.ref a, .int x] h (cn fun h' => ∃ c' cap', rw_at cI h' a c' cap' (xs ++ [x]) ∧
    (c' = c ∧ cap' = cap ∧ h'.1 = h.1 ∧ h'.2.1 = h.2.1 ∨ xs.length = cap ∧ c' = h.1 ∧ cap' = 2 * cap ∧ h'.1 = h.1 + 1 ∧ h'.2.1 = h.2.1 + 2 * cap) ∧ ∀ q, q ≠ a → q ≠ c → q ≠ h.1 → h'.2.2 q = h.2.2 q) := by
  obtain ⟨hA, f, hC, hle, hcap, hf⟩ := hr
  have hac : a ≠ c := fun z => by rw [z, hC] at hA; cases hA
  have hlx : (xs ++ [x]).length = xs.length + 1 := by simp
  have hgx : ∀ (g : Nat → Int32), (∀ j, j < xs.length → g j = xs.getD j (-1)) → ∀ j, j < (xs ++ [x]).length → upd g xs.length x j = (xs ++ [x]).getD j (-1) := fun g hg j hj => by
    rw [hlx] at hj
    by_cases hjl : j = xs.length
    · subst hjl
      rw [pk_us, List.getD_eq_getElem?_getD, List.getElem?_append_right (Nat.le_refl _)]
      simp
    · rw [pk_un hjl, hg j (by omega), List.getD_eq_getElem?_getD, List.getD_eq_getElem?_getD, List.getElem?_append_left (by omega)]
  refine ct_of (ws' := tb_all) rfl rfl (Nat.le_of_ble_eq_true rfl) ?_
  refine ev_aload_n d_Row_add_0 rfl rfl ?_
  refine ev_get (fa_Row_15 rfl rfl) d_Row_add_1 hA rfl ?_
  refine ev_sipush (v := 4096) d_Row_add_4 (by decide) ?_
  refine ev_icmp_lt (tgt := 11) d_Row_add_7 (by decide) (fun c_7 => ?_) (fun c_7 => absurd (nI_lt (b := 4096) hx (by omega)) c_7)
  refine ev_aload_n d_Row_add_11 rfl rfl ?_
  refine ev_get (fa_Row_15 rfl rfl) d_Row_add_12 hA rfl ?_
  refine ev_aload_n d_Row_add_15 rfl rfl ?_
  refine ev_get (fa_Row_11 rfl rfl) d_Row_add_16 hA rfl ?_
  refine ev_alen hT hC d_Row_add_19 ?_
  refine ev_icmp_lt (tgt := 40) d_Row_add_20 (by decide) (fun c_20 => ?_) (fun c_20 => ?_)
  · have hlt : xs.length < cap := (nI_ltI (by omega) (by omega)).mp c_20
    refine ev_aload_n d_Row_add_40 rfl rfl ?_
    refine ev_get (fa_Row_11 rfl rfl) d_Row_add_41 hA rfl ?_
    refine ev_aload_n d_Row_add_44 rfl rfl ?_
    refine ev_get (fa_Row_15 rfl rfl) d_Row_add_45 hA rfl ?_
    refine ev_iload_n d_Row_add_48 rfl rfl ?_
    refine ev_iast hT hC (vp_in_nI hlt (by omega)) d_Row_add_49 ?_
    have hA2 : (hp_up h c (.inl (cI, cap, .inl (upd f (nI xs.length).toNatClampNeg x)))).2.2 a = some (.inr (1, [.ref c, .int (nI xs.length)])) := by rw [hp_up_ne hac]; exact hA
    refine ev_aload_n d_Row_add_50 rfl rfl ?_
    refine ev_dup d_Row_add_51 rfl ?_
    refine ev_get (fa_Row_15 rfl rfl) d_Row_add_52 hA2 rfl ?_
    refine ev_iconst (v := 1) d_Row_add_55 (by decide) ?_
    refine ev_iadd d_Row_add_56 ?_
    refine ev_put (fp_Row_15 rfl rfl) d_Row_add_57 hA2 (Nat.le_of_ble_eq_true rfl) rfl rfl ?_
    refine ev_vret d_Row_add_60 rfl ?_
    refine ⟨rfl, c, cap, ⟨?_, upd f xs.length x, ?_, by omega, hcap, hgx f hf⟩, Or.inl ⟨rfl, rfl, rfl, rfl⟩, fun q h1 h2 h3 => ?_⟩
    · rw [hp_up_self, hlx, nI_1]
      rfl
    · rw [hp_up_ne (Ne.symm hac), hp_up_self, nI_clamp (by omega)]
    · rw [hp_up_ne h1, hp_up_ne h2]
  · have heq : xs.length = cap := Nat.le_antisymm hle (Nat.le_of_not_lt (fun z => c_20 (nI_lt z (by omega))))
    obtain ⟨g1, g2⟩ := hg heq
    refine ev_aload_n d_Row_add_23 rfl rfl ?_
    refine ev_aload_n d_Row_add_24 rfl rfl ?_
    refine ev_get (fa_Row_11 rfl rfl) d_Row_add_25 hA rfl ?_
    refine ev_iconst (v := 2) d_Row_add_28 (by decide) ?_
    refine ev_aload_n d_Row_add_29 rfl rfl ?_
    refine ev_get (fa_Row_15 rfl rfl) d_Row_add_30 hA rfl ?_
    refine ev_imul d_Row_add_33 ?_
    rw [show (2 : Int32) * nI xs.length = nI (2 * cap) from by rw [heq]; exact pk_mul 2 cap]
    refine ev_Sr [.ref c, .int (nI (2 * cap))] [.ref a] ca_Row_add_19 d_Row_add_34 rfl (Nat.le_of_ble_eq_true rfl) (c_copyOf hT hC hc (by omega) (by omega)) (fun v h1 z => ?_)
    obtain ⟨rfl, rfl⟩ := z
    have hA2 : (hp_up (hp_add h (2 * cap) (.inl (cI, 2 * cap, .inl (fun _ => 0)))) h.1 (.inl (cI, 2 * cap, .inl (va_cpy f (fun _ => 0) 0 0 cap)))).2.2 a = some (.inr (1, [.ref c, .int (nI xs.length)])) := by
      rw [hp_up_ne (by omega), hp_add_ne (by omega)]; exact hA
    refine ev_put (fp_Row_11 rfl rfl) d_Row_add_37 hA2 (Nat.le_of_ble_eq_true rfl) rfl rfl ?_
    refine ev_aload_n d_Row_add_40 rfl rfl ?_
    refine ev_get (fa_Row_11 rfl rfl) d_Row_add_41 (hp_up_self _ _ _) rfl ?_
    refine ev_aload_n d_Row_add_44 rfl rfl ?_
    refine ev_get (fa_Row_15 rfl rfl) d_Row_add_45 (hp_up_self _ _ _) rfl ?_
    refine ev_iload_n d_Row_add_48 rfl rfl ?_
    refine ev_iast hT (show (hp_up (hp_up (hp_add h _ _) h.1 _) a _).2.2 h.1 = _ by rw [hp_up_ne (by omega), hp_up_self]) (vp_in_nI (by omega) (by omega)) d_Row_add_49 ?_
    have hA4 : ∀ (h5 : hp_T) (e5 : va_E), (hp_up (hp_up h5 a (.inr (1, [.ref h.1, .int (nI xs.length)]))) h.1 e5).2.2 a = some (.inr (1, [.ref h.1, .int (nI xs.length)])) := fun h5 e5 => by rw [hp_up_ne (by omega), hp_up_self]
    refine ev_aload_n d_Row_add_50 rfl rfl ?_
    refine ev_dup d_Row_add_51 rfl ?_
    refine ev_get (fa_Row_15 rfl rfl) d_Row_add_52 (hA4 _ _) rfl ?_
    refine ev_iconst (v := 1) d_Row_add_55 (by decide) ?_
    refine ev_iadd d_Row_add_56 ?_
    refine ev_put (fp_Row_15 rfl rfl) d_Row_add_57 (hA4 _ _) (Nat.le_of_ble_eq_true rfl) rfl rfl ?_
    refine ev_vret d_Row_add_60 rfl ?_
    refine ⟨rfl, h.1, 2 * cap, ⟨?_, upd (va_cpy f (fun _ => 0) 0 0 cap) xs.length x, ?_, by omega, by omega, hgx _ (fun j hj => ?_)⟩, Or.inr ⟨heq, rfl, rfl, rfl, rfl⟩, fun q h1 h2 h3 => ?_⟩
    · rw [hp_up_self, hlx, nI_1]
      rfl
    · rw [hp_up_ne (by omega), hp_up_self, nI_clamp (by omega)]
    · rw [pk_cpy_in (Nat.zero_le _) (by omega)]
      rw [show 0 + (j - 0) = j by omega]
      exact hf j hj
    · rw [hp_up_ne h1, hp_up_ne h3, hp_up_ne h1, hp_up_ne h3, hp_add_ne h3]
end ROW2
