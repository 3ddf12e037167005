section TEXTS
variable {G : gl_G} {cI : ClassId}
/-- a Texts at t: its bytes, its bounds -/
def tx_at (cI : ClassId) (h : hp_T) (t rb cb kb : Nat) (bs : List Int32) (rx cx kx : Nat) (bd : List Int32) : Prop := h.2.2 t = some (.inr (3, [.ref rb, .ref rx])) ∧ rw_at cI h rb cb kb bs ∧ rw_at cI h rx cx kx bd
def szO (bd : List Int32) (t : Int32) : Int32 := if t < 0 then -1 else if nI bd.length - 1 ≤ t then -1 else rg bd (t + 1) - rg bd t
def btO (bs bd : List Int32) (t i : Int32) : Int32 := if i < 0 then -1 else if szO bd t ≤ i then -1 else rg bs (rg bd t + i)
theorem c_Texts_count {h : hp_T} {t rb cb kb rx cx kx : Nat} {bs bd : List Int32} (hr : tx_at cI h t rb cb kb bs rx cx kx bd) : ct_E G m_Texts_count [.ref t] h (cv (.int (nI bd.length - 1)) h) := by
  obtain ⟨hA, hb, hx⟩ := hr
  refine ct_of (ws' := tb_all) rfl rfl (Nat.le_of_ble_eq_true rfl) ?_
  refine ev_aload_n d_Texts_count_0 rfl rfl ?_
  refine ev_get (fa_Texts_18 rfl rfl) d_Texts_count_1 hA rfl ?_
  refine ev_Vv (ci := 1) [] [] ca_Texts_count_25 d_Texts_count_4 rfl (hx.1) rfl (Nat.le_of_ble_eq_true rfl) (c_Row_size (x := .null) hx.1) ?_
  refine ev_iconst (v := 1) d_Texts_count_7 (by decide) ?_
  refine ev_isub d_Texts_count_8 ?_
  refine ev_iret d_Texts_count_9 rfl ?_
  exact ⟨rfl, rfl⟩
theorem c_Texts_sizeOf (hT : (gl_t G)[0]? = some (cI, .int)) {h : hp_T} {t rb cb kb rx cx kx : Nat} {bs bd : List Int32} (hr : tx_at cI h t rb cb kb bs rx cx kx bd) (i : Int32) : ct_E G m_Texts_sizeOf [.ref t, .int i] h (cv (.int (szO bd i)) h) := by
  obtain ⟨hA, hb, hx⟩ := hr
  refine ct_of (ws' := tb_all) rfl rfl (Nat.le_of_ble_eq_true rfl) ?_
  refine ev_iload_n d_Texts_sizeOf_0 rfl rfl ?_
  refine ev_if_lt (tgt := 39) d_Texts_sizeOf_1 (by decide) (fun c_1 => ?_) (fun c_1 => ?_)
  · refine ev_iconst (v := (-1)) d_Texts_sizeOf_39 (by decide) ?_
    refine ev_iret d_Texts_sizeOf_40 rfl ?_
    exact ⟨by rw [szO, if_pos c_1], rfl⟩
  · refine ev_iload_n d_Texts_sizeOf_4 rfl rfl ?_
    refine ev_aload_n d_Texts_sizeOf_5 rfl rfl ?_
    refine ev_get (fa_Texts_18 rfl rfl) d_Texts_sizeOf_6 hA rfl ?_
    refine ev_Vv (ci := 1) [] [.int i] ca_Texts_sizeOf_25 d_Texts_sizeOf_9 rfl (hx.1) rfl (Nat.le_of_ble_eq_true rfl) (c_Row_size (x := .null) hx.1) ?_
    refine ev_iconst (v := 1) d_Texts_sizeOf_12 (by decide) ?_
    refine ev_isub d_Texts_sizeOf_13 ?_
    refine ev_icmp_ge (tgt := 39) d_Texts_sizeOf_14 (by decide) (fun c_14 => ?_) (fun c_14 => ?_)
    · refine ev_iconst (v := (-1)) d_Texts_sizeOf_39 (by decide) ?_
      refine ev_iret d_Texts_sizeOf_40 rfl ?_
      exact ⟨by rw [szO, if_neg c_1, if_pos c_14], rfl⟩
    · refine ev_aload_n d_Texts_sizeOf_17 rfl rfl ?_
      refine ev_get (fa_Texts_18 rfl rfl) d_Texts_sizeOf_18 hA rfl ?_
      refine ev_iload_n d_Texts_sizeOf_21 rfl rfl ?_
      refine ev_iconst (v := 1) d_Texts_sizeOf_22 (by decide) ?_
      refine ev_iadd d_Texts_sizeOf_23 ?_
      refine ev_Vv (ci := 1) [.int (i + 1)] [] ca_Texts_sizeOf_29 d_Texts_sizeOf_24 rfl (hx.1) rfl (Nat.le_of_ble_eq_true rfl) (c_Row_get hT hx (i + 1)) ?_
      refine ev_aload_n d_Texts_sizeOf_27 rfl rfl ?_
      refine ev_get (fa_Texts_18 rfl rfl) d_Texts_sizeOf_28 hA rfl ?_
      refine ev_iload_n d_Texts_sizeOf_31 rfl rfl ?_
      refine ev_Vv (ci := 1) [.int i] [.int (rg bd (i + 1))] ca_Texts_sizeOf_29 d_Texts_sizeOf_32 rfl (hx.1) rfl (Nat.le_of_ble_eq_true rfl) (c_Row_get hT hx i) ?_
      refine ev_isub d_Texts_sizeOf_35 ?_
      refine ev_goto (tgt := 40) d_Texts_sizeOf_36 (by decide) ?_
      refine ev_iret d_Texts_sizeOf_40 rfl ?_
      exact ⟨by rw [szO, if_neg c_1, if_neg c_14], rfl⟩
theorem c_Texts_byteOf (hT : (gl_t G)[0]? = some (cI, .int)) {h : hp_T} {t rb cb kb rx cx kx : Nat} {bs bd : List Int32} (hr : tx_at cI h t rb cb kb bs rx cx kx bd) (k i : Int32) : ct_E G m_Texts_byteOf [.ref t, .int k, .int i] h (cv (.int (btO bs bd k i)) h) := by
  have hr' := hr
  obtain ⟨hA, hb, hx⟩ := hr
  refine ct_of (ws' := tb_all) rfl rfl (Nat.le_of_ble_eq_true rfl) ?_
  refine ev_iload_n d_Texts_byteOf_0 rfl rfl ?_
  refine ev_if_lt (tgt := 33) d_Texts_byteOf_1 (by decide) (fun c_1 => ?_) (fun c_1 => ?_)
  · refine ev_iconst (v := (-1)) d_Texts_byteOf_33 (by decide) ?_
    refine ev_iret d_Texts_byteOf_34 rfl ?_
    exact ⟨by rw [btO, if_pos c_1], rfl⟩
  · refine ev_iload_n d_Texts_byteOf_4 rfl rfl ?_
    refine ev_aload_n d_Texts_byteOf_5 rfl rfl ?_
    refine ev_iload_n d_Texts_byteOf_6 rfl rfl ?_
    refine ev_Vv (ci := 3) [.int k] [.int i] ca_Texts_byteOf_33 d_Texts_byteOf_7 rfl (hA) rfl (Nat.le_of_ble_eq_true rfl) (c_Texts_sizeOf hT hr' k) ?_
    refine ev_icmp_ge (tgt := 33) d_Texts_byteOf_10 (by decide) (fun c_10 => ?_) (fun c_10 => ?_)
    · refine ev_iconst (v := (-1)) d_Texts_byteOf_33 (by decide) ?_
      refine ev_iret d_Texts_byteOf_34 rfl ?_
      exact ⟨by rw [btO, if_neg c_1, if_pos c_10], rfl⟩
    · refine ev_aload_n d_Texts_byteOf_13 rfl rfl ?_
      refine ev_get (fa_Texts_12 rfl rfl) d_Texts_byteOf_14 hA rfl ?_
      refine ev_aload_n d_Texts_byteOf_17 rfl rfl ?_
      refine ev_get (fa_Texts_18 rfl rfl) d_Texts_byteOf_18 hA rfl ?_
      refine ev_iload_n d_Texts_byteOf_21 rfl rfl ?_
      refine ev_Vv (ci := 1) [.int k] [.ref rb] ca_Texts_byteOf_29 d_Texts_byteOf_22 rfl (hx.1) rfl (Nat.le_of_ble_eq_true rfl) (c_Row_get hT hx k) ?_
      refine ev_iload_n d_Texts_byteOf_25 rfl rfl ?_
      refine ev_iadd d_Texts_byteOf_26 ?_
      refine ev_Vv (ci := 1) [.int (rg bd k + i)] [] ca_Texts_byteOf_29 d_Texts_byteOf_27 rfl (hb.1) rfl (Nat.le_of_ble_eq_true rfl) (c_Row_get hT hb (rg bd k + i)) ?_
      refine ev_goto (tgt := 34) d_Texts_byteOf_30 (by decide) ?_
      refine ev_iret d_Texts_byteOf_34 rfl ?_
      exact ⟨by rw [btO, if_neg c_1, if_neg c_10], rfl⟩
/-- cutTo, to a length that it has -/
theorem c_Row_cut {h : hp_T} {a c cap : Nat} {xs : List Int32} (hr : rw_at cI h a c cap xs) {j : Nat} (hj : j ≤ xs.length) : ct_E G m_Row_cutTo [.ref a, .int (nI j)] h (cn fun h' => h'.1 = h.1 ∧ h'.2.1 = h.2.1 ∧ rw_at cI h' a c cap (xs.take j) ∧ (j = xs.length → h' = h) ∧ ∀ q, q ≠ a → h'.2.2 q = h.2.2 q) := by
  have hr' := hr
  obtain ⟨hA, f, hC, hle, hcap, hf⟩ := hr
  refine ct_to (c_Row_cutTo hr' (nI j)) (fun o h' z => ?_)
  obtain ⟨rfl, z | ⟨k, hk, hjk, rfl⟩⟩ := z
  · obtain ⟨z, rfl⟩ := z
    have hjl : j = xs.length := by
      rcases z with z | z
      · exact absurd z (nI_pos (by omega))
      · have := (nI_leI (by omega) (by omega)).mp z
        omega
    refine ⟨rfl, rfl, rfl, ?_, fun _ => rfl, fun _ _ => rfl⟩
    rw [hjl, List.take_length]
    exact hr'
  · have hkj : j = k := (nI_eq (by omega) (by omega)).mp hjk
    subst hkj
    have hac : a ≠ c := fun z => by rw [z, hC] at hA; cases hA
    have hlen : (xs.take j).length = j := by rw [List.length_take]; omega
    refine ⟨rfl, rfl, rfl, ⟨?_, f, ?_, by omega, hcap, fun i hi => ?_⟩, fun z => by omega, fun q hq => hp_up_ne hq⟩
    · rw [hlen]; exact hp_up_self _ _ _
    · rw [hp_up_ne (Ne.symm hac)]; exact hC
    · rw [hlen] at hi
      rw [hf i (by omega), List.getD_eq_getElem?_getD, List.getD_eq_getElem?_getD, List.getElem?_take, if_pos hi]
theorem c_Texts_clear {h : hp_T} {t rb cb kb rx cx kx : Nat} {bs bd : List Int32} (hr : tx_at cI h t rb cb kb bs rx cx kx bd) (hd : 1 ≤ bd.length) (hrx : rb ≠ rx) (hbc : rb ≠ cx) : ct_E G m_Texts_clear [.ref t] h (cn fun h' => h'.1 = h.1 ∧ h'.2.1 = h.2.1 ∧ tx_at cI h' t rb cb kb [] rx cx kx (bd.take 1) ∧ (bs = [] → bd.length = 1 → h' = h) ∧ ∀ q, q ≠ rb → q ≠ rx → h'.2.2 q = h.2.2 q) := by
  obtain ⟨hA, hb, hx⟩ := hr
  have htb : t ≠ rb := fun z => by rw [z, hb.1] at hA; simp at hA
  have htx : t ≠ rx := fun z => by rw [z, hx.1] at hA; simp at hA
  have hxc : rx ≠ cb := fun z => by
    obtain ⟨f, hf, -⟩ := hb.2
    have h4 := hx.1
    rw [z, hf] at h4
    cases h4
  refine ct_of (ws' := tb_all) rfl rfl (Nat.le_of_ble_eq_true rfl) ?_
  refine ev_aload_n d_Texts_clear_0 rfl rfl ?_
  refine ev_get (fa_Texts_12 rfl rfl) d_Texts_clear_1 hA rfl ?_
  refine ev_iconst (v := 0) d_Texts_clear_4 (by decide) ?_
  refine ev_Vn (ci := 1) [.int 0] [] ca_Texts_clear_43 d_Texts_clear_5 rfl (hb.1) rfl (Nat.le_of_ble_eq_true rfl) (c_Row_cut hb (j := 0) (Nat.zero_le _)) (fun h1 z => ?_)
  obtain ⟨z1, z2, z3, z4, z5⟩ := z
  have hA1 : h1.2.2 t = some (.inr (3, [.ref rb, .ref rx])) := by rw [z5 t htb]; exact hA
  have hx1 : rw_at cI h1 rx cx kx bd := by
    obtain ⟨f1, f, f2, f3⟩ := hx
    exact ⟨by rw [z5 rx (Ne.symm hrx)]; exact f1, f, by rw [z5 cx (Ne.symm hbc)]; exact f2, f3⟩
  refine ev_aload_n d_Texts_clear_8 rfl rfl ?_
  refine ev_get (fa_Texts_18 rfl rfl) d_Texts_clear_9 hA1 rfl ?_
  refine ev_iconst (v := 1) d_Texts_clear_12 (by decide) ?_
  refine ev_Vn (ci := 1) [.int 1] [] ca_Texts_clear_43 d_Texts_clear_13 rfl (hx1.1) rfl (Nat.le_of_ble_eq_true rfl) (c_Row_cut hx1 (j := 1) hd) (fun h1 z => ?_)
  rename_i h2
  obtain ⟨y1, y2, y3, y4, y5⟩ := z
  refine ev_vret d_Texts_clear_16 rfl ?_
  refine ⟨rfl, y1.trans z1, y2.trans z2, ⟨by rw [y5 t htx]; exact hA1, ?_, y3⟩, fun e1 e2 => ?_, fun q q1 q2 => by rw [y5 q q2, z5 q q1]⟩
  · obtain ⟨f1, f, f2, f3⟩ := z3
    exact ⟨by rw [y5 rb hrx]; exact f1, f, by rw [y5 cb (Ne.symm hxc)]; exact f2, f3⟩
  · rw [y4 e2.symm, z4 (by rw [e1]; rfl)]
end TEXTS
