/-! texts put behind an open text, strong -/
theorem txs_ne : ∀ t ∈ txs, ∀ u ∈ txs, t + 1 ≠ u + 3 ∧ (t ≠ u → t + 1 ≠ u + 1) := by decide
section TXH2
variable {G : gl_G} {cI : ClassId} {X : Nat}
theorem y_radd (hT : (gl_t G)[0]? = some (cI, .int)) {h : hp_T} {σ : rwT} (S : tS cI X h σ) {t : Nat} (ht : t ∈ txs) {Ls : List (List Int32)} {op : List Int32} (H : txH σ t Ls op) (hb : Ls.flatten.length + op.length < 4096) (b : Int32) : ct_E G m_Row_add [.ref (X + (t + 1)), .int b] h (cn (tP cI X h σ [t + 1] (fun σ' => txH σ' t Ls (op ++ [b])))) := by
  refine ct_to (w_radd hT S (txs_in t ht).1 b) ?_
  rintro o h' ⟨rfl, σ', p1, p2, p3, p4⟩
  refine ⟨rfl, σ', p1, p2, p3, ?_, (p3 (t + 3) (by simp)).trans H.2⟩
  rw [p4, H.1, addR, if_pos (by rw [List.length_append]; omega), List.append_assoc]
theorem ly_putText (hT : (gl_t G)[0]? = some (cI, .int)) {t u : Nat} (ht : t ∈ txs) (hu : u ∈ txs) (htu : t ≠ u) {Ls : List (List Int32)} {op l bsU : List Int32} {o : Nat} {k : Int32} (hbs : ∀ j, j < l.length → rg bsU (nI (o + j)) = rg l (nI j)) (hl : Ls.flatten.length + op.length + l.length < 4096) : ∀ (d i : Nat) (h : hp_T) (σ : rwT), i + d = l.length → tS cI X h σ → txH σ t Ls (op ++ l.take i) → (σ (u + 1)).2.2 = bsU → ev_E G m_Texts_putText 19 [(0, .ref (X + t)), (1, .ref (X + u)), (2, .int k), (3, .int (nI o)), (4, .int (nI l.length)), (5, .int (nI i))] [] h (cn (tP cI X h σ [t + 1] (fun σ' => txH σ' t Ls (op ++ l)))) := by
  obtain ⟨t1, -, -, -⟩ := txs_in t ht
  obtain ⟨u1, -, -, -⟩ := txs_in u hu
  intro d
  induction d with
  | zero =>
    intro i h σ hi S H hU
    refine ev_iload d_Texts_putText_19 rfl ?_
    refine ev_iload d_Texts_putText_21 rfl ?_
    refine ev_icmp_ge (tgt := 50) d_Texts_putText_23 (by decide) (fun _ => ?_) (fun z => absurd (nI_le (by omega) (by omega)) z)
    refine ev_vret d_Texts_putText_50 rfl ?_
    refine ⟨rfl, σ, S, rwR_rf, fun _ _ => rfl, ?_⟩
    rw [List.take_of_length_le (by omega)] at H
    exact H
  | succ d ih =>
    intro i h σ hi S H hU
    have hil : i < l.length := by omega
    refine ev_iload d_Texts_putText_19 rfl ?_
    refine ev_iload d_Texts_putText_21 rfl ?_
    refine ev_icmp_ge (tgt := 50) d_Texts_putText_23 (by decide) (fun z => absurd z (nI_ge (by omega) (by omega))) (fun _ => ?_)
    refine ev_aload_n d_Texts_putText_26 rfl rfl ?_
    refine ev_get (fa_Texts_12 rfl rfl) d_Texts_putText_27 (S.2 t ht) rfl ?_
    refine ev_aload_n d_Texts_putText_30 rfl rfl ?_
    refine ev_get (fa_Texts_12 rfl rfl) d_Texts_putText_31 (S.2 u hu) rfl ?_
    refine ev_iload_n d_Texts_putText_34 rfl rfl ?_
    refine ev_iload d_Texts_putText_35 rfl ?_
    refine ev_iadd d_Texts_putText_37 ?_
    refine ev_Vv (ci := 1) [.int (nI o + nI i)] [.ref (X + (t + 1))] ca_Texts_putText_29 d_Texts_putText_38 rfl ((S.1.1 _ u1).1.1) rfl (Nat.le_of_ble_eq_true rfl) (w_get hT S.1 u1 _) ?_
    rw [hU, nI_add, hbs i hil]
    refine ev_Vn (ci := 1) [.int _] [] ca_Texts_putText_21 d_Texts_putText_41 rfl ((S.1.1 _ t1).1.1) rfl (Nat.le_of_ble_eq_true rfl) (y_radd hT S ht H (by rw [List.length_append, List.length_take]; omega) _) (fun h1 z => ?_)
    obtain ⟨σ1, S1, r1, p1, H1⟩ := z
    have e1 : op ++ l.take i ++ [rg l (nI i)] = op ++ l.take (i + 1) := by
      have h1 := rg_in hil (by omega)
      rw [List.getElem?_eq_getElem hil] at h1
      rw [List.take_succ_eq_append_getElem hil, Option.some.inj h1, List.append_assoc]
    rw [e1] at H1
    refine ev_iinc d_Texts_putText_44 rfl (by decide) ?_
    refine ev_goto (tgt := 19) d_Texts_putText_47 (by decide) ?_
    rw [show nI i + Int32.ofInt 1 = nI (i + 1) from nI_1 i]
    refine ev_to (ih (i + 1) h1 σ1 (by omega) S1 H1 ((p1 (u + 1) (by have := (txs_ne t ht u hu).2 htu; simp; omega)).trans hU)) ?_
    rintro o h' ⟨rfl, σ2, q1, q2, q3, q4⟩
    exact ⟨rfl, σ2, q1, rwR_tr r1 q2, fun τ hτ => (q3 τ hτ).trans (p1 τ hτ), q4⟩
theorem y_putText (hT : (gl_t G)[0]? = some (cI, .int)) {h : hp_T} {σ : rwT} (S : tS cI X h σ) {t u : Nat} (ht : t ∈ txs) (hu : u ∈ txs) (htu : t ≠ u) {Ls Lu : List (List Int32)} {op ou l : List Int32} {k : Nat} (H : txH σ t Ls op) (U : txH σ u Lu ou) (hk : Lu[k]? = some l) (hb1 : Lu.length < 2 ^ 30) (hb2 : Lu.flatten.length < 2 ^ 30) (hl : Ls.flatten.length + op.length + l.length < 4096) : ct_E G m_Texts_putText [.ref (X + t), .ref (X + u), .int (nI k)] h (cn (tP cI X h σ [t + 1] (fun σ' => txH σ' t Ls (op ++ l)))) := by
  obtain ⟨-, u3, -, -⟩ := txs_in u hu
  have hkl := (List.getElem?_eq_some_iff.mp hk).1
  obtain ⟨e1, -⟩ := flat_take hk
  have el := congrArg List.length e1
  simp only [List.length_append] at el
  refine ct_of (ws' := tb_all) rfl rfl (Nat.le_of_ble_eq_true rfl) ?_
  refine ev_aload_n d_Texts_putText_0 rfl rfl ?_
  refine ev_get (fa_Texts_18 rfl rfl) d_Texts_putText_1 (S.2 u hu) rfl ?_
  refine ev_iload_n d_Texts_putText_4 rfl rfl ?_
  refine ev_Vv (ci := 1) [.int (nI k)] [] ca_Texts_putText_29 d_Texts_putText_5 rfl ((S.1.1 _ u3).1.1) rfl (Nat.le_of_ble_eq_true rfl) (w_get hT S.1 u3 (nI k)) ?_
  rw [U.2, rg_at (bnT_at Lu k (by omega)) (by omega)]
  refine ev_istore_n d_Texts_putText_8 rfl (by decide) ?_
  refine ev_aload_n d_Texts_putText_9 rfl rfl ?_
  refine ev_iload_n d_Texts_putText_10 rfl rfl ?_
  refine ev_Vv (ci := 3) [.int (nI k)] [] ca_Texts_putText_33 d_Texts_putText_11 rfl ((S.2 u hu)) rfl (Nat.le_of_ble_eq_true rfl) (w_sizeOf hT S hu (nI k)) ?_
  rw [U.2, szT hb1 hk]
  refine ev_istore d_Texts_putText_14 (by decide) ?_
  refine ev_iconst (v := 0) d_Texts_putText_16 (by decide) ?_
  refine ev_istore d_Texts_putText_17 (by decide) ?_
  refine ly_putText hT ht hu htu (bsU := Lu.flatten ++ ou) (fun j hj => ?_) hl l.length 0 h σ (by omega) S (by rw [List.take_zero, List.append_nil]; exact H) U.1
  rw [rg_nat (by omega), rg_nat (by omega), List.getD_eq_getElem?_getD, List.getD_eq_getElem?_getD, e1, List.append_assoc, List.getElem?_append_right (by omega), Nat.add_sub_cancel_left, List.append_assoc, List.getElem?_append_left hj]
theorem ly_putSmall (hNm : gl_nm G) (hT : (gl_t G)[0]? = some (cI, .int)) {t u : Nat} (ht : t ∈ txs) (hu : u ∈ txs) (htu : t ≠ u) {Ls Lu : List (List Int32)} {op ou l : List Int32} {k n : Nat} (hk : Lu[k]? = some l) (hb1 : Lu.length < 2 ^ 30) (hb2 : Lu.flatten.length < 2 ^ 30) (hn : n ≤ l.length) (hl : Ls.flatten.length + op.length + n < 4096) : ∀ (d i : Nat) (h : hp_T) (σ : rwT), i + d = n → tS cI X h σ → txH σ t Ls (op ++ (l.take i).map sp_small) → txH σ u Lu ou → ev_E G m_Texts_putSmall 3 [(0, .ref (X + t)), (1, .ref (X + u)), (2, .int (nI k)), (3, .int (nI n)), (4, .int (nI i))] [] h (cn (tP cI X h σ [t + 1] (fun σ' => txH σ' t Ls (op ++ (l.take n).map sp_small)))) := by
  obtain ⟨t1, -, -, -⟩ := txs_in t ht
  obtain ⟨n1, n2⟩ := txs_ne t ht u hu
  obtain ⟨fe, -⟩ := flat_take hk
  have el := congrArg List.length fe
  simp only [List.length_append] at el
  intro d
  induction d with
  | zero =>
    intro i h σ hi S H U
    have e : i = n := by omega
    subst e
    refine ev_iload d_Texts_putSmall_3 rfl ?_
    refine ev_iload_n d_Texts_putSmall_5 rfl rfl ?_
    refine ev_icmp_ge (tgt := 32) d_Texts_putSmall_6 (by decide) (fun _ => ?_) (fun z => absurd (nI_le (by omega) (by omega)) z)
    refine ev_vret d_Texts_putSmall_32 rfl ?_
    exact ⟨rfl, σ, S, rwR_rf, fun _ _ => rfl, H⟩
  | succ d ih =>
    intro i h σ hi S H U
    have hil : i < l.length := by omega
    refine ev_iload d_Texts_putSmall_3 rfl ?_
    refine ev_iload_n d_Texts_putSmall_5 rfl rfl ?_
    refine ev_icmp_ge (tgt := 32) d_Texts_putSmall_6 (by decide) (fun z => absurd z (nI_ge (by omega) (by omega))) (fun _ => ?_)
    refine ev_aload_n d_Texts_putSmall_9 rfl rfl ?_
    refine ev_get (fa_Texts_12 rfl rfl) d_Texts_putSmall_10 (S.2 t ht) rfl ?_
    refine ev_aload_n d_Texts_putSmall_13 rfl rfl ?_
    refine ev_iload_n d_Texts_putSmall_14 rfl rfl ?_
    refine ev_iload d_Texts_putSmall_15 rfl ?_
    refine ev_Vv (ci := 3) [.int (nI k), .int (nI i)] [.ref (X + (t + 1))] ca_Texts_putSmall_36 d_Texts_putSmall_17 rfl ((S.2 u hu)) rfl (Nat.le_of_ble_eq_true rfl) (w_byteOf hT S hu (nI k) (nI i)) ?_
    rw [U.1, U.2, btT hb1 hb2 hk]
    refine ev_Nv hNm [.int _] [.ref (X + (t + 1))] cn_Texts_putSmall_40 d_Texts_putSmall_20 rfl (Nat.le_of_ble_eq_true rfl) (w_small _) ?_
    refine ev_Vn (ci := 1) [.int _] [] ca_Texts_putSmall_21 d_Texts_putSmall_23 rfl ((S.1.1 _ t1).1.1) rfl (Nat.le_of_ble_eq_true rfl) (y_radd hT S ht H (by rw [List.length_append, List.length_map, List.length_take]; omega) _) (fun h1 z => ?_)
    obtain ⟨σ1, S1, r1, p1, H1⟩ := z
    have e1 : op ++ (l.take i).map sp_small ++ [sp_small (rg l (nI i))] = op ++ (l.take (i + 1)).map sp_small := by
      have h1 := rg_in hil (by omega)
      rw [List.getElem?_eq_getElem hil] at h1
      rw [List.take_succ_eq_append_getElem hil, Option.some.inj h1, List.map_append, List.append_assoc]
      rfl
    rw [e1] at H1
    refine ev_iinc d_Texts_putSmall_26 rfl (by decide) ?_
    refine ev_goto (tgt := 3) d_Texts_putSmall_29 (by decide) ?_
    rw [show nI i + Int32.ofInt 1 = nI (i + 1) from nI_1 i]
    have hne := n2 htu
    refine ev_to (ih (i + 1) h1 σ1 (by omega) S1 H1 (txH_same U (p1 (u + 1) (by simp; omega)) (p1 (u + 3) (by simp; omega)))) ?_
    rintro o h' ⟨rfl, σ2, q1, q2, q3, q4⟩
    exact ⟨rfl, σ2, q1, rwR_tr r1 q2, fun τ hτ => (q3 τ hτ).trans (p1 τ hτ), q4⟩
theorem y_putSmall (hNm : gl_nm G) (hT : (gl_t G)[0]? = some (cI, .int)) {h : hp_T} {σ : rwT} (S : tS cI X h σ) {t u : Nat} (ht : t ∈ txs) (hu : u ∈ txs) (htu : t ≠ u) {Ls Lu : List (List Int32)} {op ou l : List Int32} {k n : Nat} (H : txH σ t Ls op) (U : txH σ u Lu ou) (hk : Lu[k]? = some l) (hb1 : Lu.length < 2 ^ 30) (hb2 : Lu.flatten.length < 2 ^ 30) (hn : n ≤ l.length) (hl : Ls.flatten.length + op.length + n < 4096) : ct_E G m_Texts_putSmall [.ref (X + t), .ref (X + u), .int (nI k), .int (nI n)] h (cn (tP cI X h σ [t + 1] (fun σ' => txH σ' t Ls (op ++ (l.take n).map sp_small)))) := by
  refine ct_of (ws' := tb_all) rfl rfl (Nat.le_of_ble_eq_true rfl) ?_
  refine ev_iconst (v := 0) d_Texts_putSmall_0 (by decide) ?_
  refine ev_istore d_Texts_putSmall_1 (by decide) ?_
  refine ev_as [(0, .ref (X + t)), (1, .ref (X + u)), (2, .int (nI k)), (3, .int (nI n)), (4, .int (nI 0))] ⟨rfl, rfl, rfl, rfl, rfl, trivial⟩ (ly_putSmall hNm hT ht hu htu hk hb1 hb2 hn hl n 0 h σ (by omega) S (by simpa using H) U)
end TXH2
