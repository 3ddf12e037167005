/-! Row: a row of numbers in an array that grows -/
/-- a Row at a, its array at c of cap cells, holding xs -/
def rw_at (cI : ClassId) (h : hp_T) (a c cap : Nat) (xs : List Int32) : Prop :=
  h.2.2 a = some (.inr (1, [.ref c, .int (nI xs.length)])) ∧ ∃ f : Nat → Int32, h.2.2 c = some (.inl (cI, cap, .inl f)) ∧ xs.length ≤ cap ∧ cap ≤ 4096 ∧ ∀ j, j < xs.length → f j = xs.getD j (-1)
/-- what get answers -/
def rg (xs : List Int32) (i : Int32) : Int32 := if i < 0 then -1 else xs.getD i.toNatClampNeg (-1)
theorem rg_neg {xs : List Int32} {i : Int32} (h : i < 0) : rg xs i = -1 := if_pos h
theorem rg_nat {xs : List Int32} {j : Nat} (h : j < 2 ^ 31) : rg xs (nI j) = xs.getD j (-1) := by
  rw [rg, if_neg (nI_pos h), nI_clamp h]
theorem rg_big {xs : List Int32} {i : Int32} (h0 : ¬ i < 0) (h : nI xs.length ≤ i) (hl : xs.length < 2 ^ 31) : rg xs i = -1 := by
  obtain ⟨j, hj, rfl⟩ := nI_of h0
  rw [rg_nat hj]
  have := (nI_leI hl hj).mp h
  rw [List.getD_eq_getElem?_getD, List.getElem?_eq_none (by omega)]
  rfl
section ROW
variable {G : gl_G} {cI : ClassId}
theorem c_Row_size {h : hp_T} {a : Nat} {r x : Value} {n : Int32} (hA : h.2.2 a = some (.inr (1, [r, .int n]))) : ct_E G m_Row_size [.ref a] h (cv (.int n) h) := by
  refine ct_of (ws' := tb_all) rfl rfl (Nat.le_of_ble_eq_true rfl) ?_
  refine ev_aload_n d_Row_size_0 rfl rfl ?_
  refine ev_get (fa_Row_15 rfl rfl) d_Row_size_1 hA rfl ?_
  refine ev_iret d_Row_size_4 rfl ?_
  exact ⟨rfl, rfl⟩
theorem c_Row_get (hT : (gl_t G)[0]? = some (cI, .int)) {h : hp_T} {a c cap : Nat} {xs : List Int32} (hr : rw_at cI h a c cap xs) (i : Int32) : ct_E G m_Row_get [.ref a, .int i] h (cv (.int (rg xs i)) h) := by
  obtain ⟨hA, f, hC, hle, hcap, hf⟩ := hr
  have hl : xs.length < 2 ^ 31 := by omega
  refine ct_of (ws' := tb_all) rfl rfl (Nat.le_of_ble_eq_true rfl) ?_
  refine ev_iload_n d_Row_get_0 rfl rfl ?_
  refine ev_if_lt (tgt := 21) d_Row_get_1 (by decide) (fun c_1 => ?_) (fun c_1 => ?_)
  · refine ev_iconst (v := (-1)) d_Row_get_21 (by decide) ?_
    refine ev_iret d_Row_get_22 rfl ?_
    rw [rg_neg c_1]
    exact ⟨rfl, rfl⟩
  · refine ev_iload_n d_Row_get_4 rfl rfl ?_
    refine ev_aload_n d_Row_get_5 rfl rfl ?_
    refine ev_get (fa_Row_15 rfl rfl) d_Row_get_6 hA rfl ?_
    refine ev_icmp_ge (tgt := 21) d_Row_get_9 (by decide) (fun c_9 => ?_) (fun c_9 => ?_)
    · refine ev_iconst (v := (-1)) d_Row_get_21 (by decide) ?_
      refine ev_iret d_Row_get_22 rfl ?_
      rw [rg_big c_1 c_9 hl]
      exact ⟨rfl, rfl⟩
    · obtain ⟨j, hj, rfl, -, hjc, -⟩ := pk_mu c_1 c_9 hl
      have hin : vp_in (nI j) cap := vp_in_nI (by omega) (by omega)
      refine ev_aload_n d_Row_get_12 rfl rfl ?_
      refine ev_get (fa_Row_11 rfl rfl) d_Row_get_13 hA rfl ?_
      refine ev_iload_n d_Row_get_16 rfl rfl ?_
      refine ev_iald hT hC hin d_Row_get_17 ?_
      refine ev_goto (tgt := 22) d_Row_get_18 (by decide) ?_
      refine ev_iret d_Row_get_22 rfl ?_
      rw [hjc, hf j hj, rg_nat (by omega)]
      exact ⟨rfl, rfl⟩
theorem c_Row_cutTo {h : hp_T} {a c cap : Nat} {xs : List Int32} (hr : rw_at cI h a c cap xs) (i : Int32) : ct_E G m_Row_cutTo [.ref a, .int i] h (cn (fun h' => (i < 0 ∨ nI xs.length ≤ i) ∧ h' = h ∨ ∃ j : Nat, j < xs.length ∧ i = nI j ∧ h' = hp_up h a (.inr (1, [.ref c, .int (nI j)])))) := by
  obtain ⟨hA, f, hC, hle, hcap, hf⟩ := hr
  have hl : xs.length < 2 ^ 31 := by omega
  refine ct_of (ws' := tb_all) rfl rfl (Nat.le_of_ble_eq_true rfl) ?_
  refine ev_iload_n d_Row_cutTo_0 rfl rfl ?_
  refine ev_if_lt (tgt := 17) d_Row_cutTo_1 (by decide) (fun c_1 => ?_) (fun c_1 => ?_)
  · refine ev_vret d_Row_cutTo_17 rfl ?_
    exact ⟨rfl, Or.inl ⟨Or.inl c_1, rfl⟩⟩
  · refine ev_iload_n d_Row_cutTo_4 rfl rfl ?_
    refine ev_aload_n d_Row_cutTo_5 rfl rfl ?_
    refine ev_get (fa_Row_15 rfl rfl) d_Row_cutTo_6 hA rfl ?_
    refine ev_icmp_ge (tgt := 17) d_Row_cutTo_9 (by decide) (fun c_9 => ?_) (fun c_9 => ?_)
    · refine ev_vret d_Row_cutTo_17 rfl ?_
      exact ⟨rfl, Or.inl ⟨Or.inr c_9, rfl⟩⟩
    · obtain ⟨j, hj, rfl, -, hjc, -⟩ := pk_mu c_1 c_9 hl
      refine ev_aload_n d_Row_cutTo_12 rfl rfl ?_
      refine ev_iload_n d_Row_cutTo_13 rfl rfl ?_
      refine ev_put (fp_Row_15 rfl rfl) d_Row_cutTo_14 hA (Nat.le_of_ble_eq_true rfl) rfl rfl ?_
      refine ev_vret d_Row_cutTo_17 rfl ?_
      exact ⟨rfl, Or.inr ⟨j, hj, rfl, rfl⟩⟩
end ROW
