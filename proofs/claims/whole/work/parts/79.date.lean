/-! the reference: what date calls; of what these answer only that they answer -/
abbrev pu (h : hp_T) : Option Value → hp_T → Prop := cr (fun v h' => (∃ x : Int32, v = .int x) ∧ h' = h)
section DATE1
variable {G : gl_G} {cI cZ : ClassId} {h0 : hp_T} {M : Nat} {I : Nat → Int32} {R : Nat → Nat → Int32} {W : Wds}
theorem c_Model_step (hT : (gl_t G)[0]? = some (cI, .int)) (hW : wOk W I R) (hl : W.length ≤ 1501) {w : Nat} (hw : I 44 = nI w) (hw2 : w ≤ 4000) : ct_E G m_Model_step [.ref M] (mo_ov cI cZ h0 M I R) (cn (fun h' => h' = mo_ov cI cZ h0 M (upd I 44 (nI (nx W (w + 1) W.length))) R)) := by
  refine ct_of (ws' := tb_all) rfl rfl (Nat.le_of_ble_eq_true rfl) ?_
  refine ev_aload_n d_Model_step_0 rfl rfl ?_
  refine ev_aload_n d_Model_step_1 rfl rfl ?_
  refine ev_aload_n d_Model_step_2 rfl rfl ?_
  refine mo_get (fa_Model_265 rfl rfl) d_Model_step_3 rfl ?_
  refine ev_iconst (v := 1) d_Model_step_6 (by decide) ?_
  refine ev_iadd d_Model_step_7 ?_
  rw [hw, nI_1]
  refine ev_aload_n d_Model_step_8 rfl rfl ?_
  refine mo_get (fa_Model_149 rfl rfl) d_Model_step_9 rfl ?_
  rw [hW.1]
  refine mo_Vv [.int (nI (w + 1)), .int (nI W.length)] [.ref M] ca_Model_step_197 d_Model_step_12 rfl (Nat.le_of_ble_eq_true rfl) (c_Model_next hT hW hl (Nat.le_refl _) (by omega)) ?_
  refine mo_put (fp_Model_265 rfl rfl) d_Model_step_15 (Nat.le_of_ble_eq_true rfl) rfl rfl rfl ?_
  refine ev_vret d_Model_step_18 rfl ?_
  exact ⟨rfl, rfl⟩
theorem c_Model_longOf (hT : (gl_t G)[0]? = some (cI, .int)) (hW : wOk W I R) (hl : W.length ≤ 1501) {k : Nat} {w : Int32 × Int32 × List Int32} (hk : W[k]? = some w) : ct_E G m_Model_longOf [.ref M, .int (nI k)] (mo_ov cI cZ h0 M I R) (cv (.int (nI w.2.2.length)) (mo_ov cI cZ h0 M I R)) := by
  have hlt := (List.getElem?_eq_some_iff.mp hk).1
  obtain ⟨r10, r11, -, -⟩ := wds_o hW hk
  have i10 : vp_in (nI k) (mo_len 10) := vp_in_nI (show k < 1501 by omega) (by decide)
  have i11 : vp_in (nI k) (mo_len 11) := vp_in_nI (show k < 1501 by omega) (by decide)
  refine ct_of (ws' := tb_all) rfl rfl (Nat.le_of_ble_eq_true rfl) ?_
  refine ev_aload_n d_Model_longOf_0 rfl rfl ?_
  refine mo_get (fa_Model_40 rfl rfl) d_Model_longOf_1 rfl ?_
  refine ev_iload_n d_Model_longOf_4 rfl rfl ?_
  refine mo_ald hT d_Model_longOf_5 (by decide) i11 ?_
  rw [nI_clamp (by omega), r11]
  refine ev_aload_n d_Model_longOf_6 rfl rfl ?_
  refine mo_get (fa_Model_37 rfl rfl) d_Model_longOf_7 rfl ?_
  refine ev_iload_n d_Model_longOf_10 rfl rfl ?_
  refine mo_ald hT d_Model_longOf_11 (by decide) i10 ?_
  rw [nI_clamp (by omega), r10]
  refine ev_isub d_Model_longOf_12 ?_
  rw [pk_sub (by omega), Nat.add_sub_cancel_left]
  refine ev_iret d_Model_longOf_13 rfl ?_
  exact ⟨rfl, rfl⟩
theorem l_Model_isDigits (hT : (gl_t G)[0]? = some (cI, .int)) {k e : Nat} (hk : k < 1501) (h11 : R 11 k = nI e) (he : e ≤ 1600) {x y : Int32} : ∀ (d i : Nat), i + d = e → ev_E G m_Model_isDigits 46 [(0, .ref M), (1, .int (nI k)), (2, .int x), (3, .int y), (4, .int (nI i))] [] (mo_ov cI cZ h0 M I R) (pu (mo_ov cI cZ h0 M I R)) := by
  have i11 : vp_in (nI k) (mo_len 11) := vp_in_nI (show k < 1501 by omega) (by decide)
  intro d
  induction d with
  | zero =>
    intro i hi
    refine ev_iload d_Model_isDigits_46 rfl ?_
    refine ev_aload_n d_Model_isDigits_48 rfl rfl ?_
    refine mo_get (fa_Model_40 rfl rfl) d_Model_isDigits_49 rfl ?_
    refine ev_iload_n d_Model_isDigits_52 rfl rfl ?_
    refine mo_ald hT d_Model_isDigits_53 (by decide) i11 ?_
    rw [nI_clamp (by omega), h11]
    refine ev_icmp_ge (tgt := 78) d_Model_isDigits_54 (by decide) (fun _ => ?_) (fun z => absurd (nI_le (by omega) (by omega)) z)
    refine ev_iconst (v := 1) d_Model_isDigits_78 (by decide) ?_
    refine ev_zret d_Model_isDigits_79 rfl rfl ?_
    exact ⟨_, rfl, ⟨_, rfl⟩, rfl⟩
  | succ d ih =>
    intro i hi
    have i12 : vp_in (nI i) (mo_len 12) := vp_in_nI (show i < 1600 by omega) (by decide)
    refine ev_iload d_Model_isDigits_46 rfl ?_
    refine ev_aload_n d_Model_isDigits_48 rfl rfl ?_
    refine mo_get (fa_Model_40 rfl rfl) d_Model_isDigits_49 rfl ?_
    refine ev_iload_n d_Model_isDigits_52 rfl rfl ?_
    refine mo_ald hT d_Model_isDigits_53 (by decide) i11 ?_
    rw [nI_clamp (by omega), h11]
    refine ev_icmp_ge (tgt := 78) d_Model_isDigits_54 (by decide) (fun z => absurd z (nI_ge (by omega) (by omega))) (fun _ => ?_)
    refine ev_aload_n d_Model_isDigits_57 rfl rfl ?_
    refine mo_get (fa_Model_43 rfl rfl) d_Model_isDigits_58 rfl ?_
    refine ev_iload d_Model_isDigits_61 rfl ?_
    refine mo_ald hT d_Model_isDigits_63 (by decide) i12 ?_
    refine ev_Sv [.int _] [] ca_Model_isDigits_271 d_Model_isDigits_64 rfl (Nat.le_of_ble_eq_true rfl) (c_Model_isDigit _) ?_
    refine ev_if_ne (tgt := 72) d_Model_isDigits_67 (by decide) (fun c_67 => ?_) (fun c_67 => ?_)
    · refine ev_iinc d_Model_isDigits_72 rfl (by decide) ?_
      refine ev_goto (tgt := 46) d_Model_isDigits_75 (by decide) ?_
      rw [show nI i + Int32.ofInt 1 = nI (i + 1) from nI_1 i]
      exact ih (i + 1) (by omega)
    · refine ev_iconst (v := 0) d_Model_isDigits_70 (by decide) ?_
      refine ev_zret d_Model_isDigits_71 rfl rfl ?_
      exact ⟨_, rfl, ⟨_, rfl⟩, rfl⟩
theorem c_Model_isDigits (hT : (gl_t G)[0]? = some (cI, .int)) (hW : wOk W I R) (hl : W.length ≤ 1501) (hb : (wB W).length ≤ 1501) {k : Nat} (hk : k ≤ 5000) (x y : Int32) : ct_E G m_Model_isDigits [.ref M, .int (nI k), .int x, .int y] (mo_ov cI cZ h0 M I R) (cr (fun v h' => ((∃ z : Int32, v = .int z ∧ (¬ z = 0 → k < W.length))) ∧ h' = mo_ov cI cZ h0 M I R)) := by
  refine ct_of (ws' := tb_all) rfl rfl (Nat.le_of_ble_eq_true rfl) ?_
  have no : ev_E G m_Model_isDigits 36 [(0, .ref M), (1, .int (nI k)), (2, .int x), (3, .int y)] [] (mo_ov cI cZ h0 M I R) (cr (fun v h' => ((∃ z : Int32, v = .int z ∧ (¬ z = 0 → k < W.length))) ∧ h' = mo_ov cI cZ h0 M I R)) := by
    refine ev_iconst (v := 0) d_Model_isDigits_36 (by decide) ?_
    refine ev_zret d_Model_isDigits_37 rfl rfl ?_
    exact ⟨_, rfl, ⟨_, rfl, fun z => absurd rfl z⟩, rfl⟩
  refine ev_iload_n d_Model_isDigits_0 rfl rfl ?_
  refine ev_aload_n d_Model_isDigits_1 rfl rfl ?_
  refine mo_get (fa_Model_149 rfl rfl) d_Model_isDigits_2 rfl ?_
  rw [hW.1]
  refine ev_icmp_ge (tgt := 36) d_Model_isDigits_5 (by decide) (fun c_5 => ?_) (fun c_5 => ?_)
  · exact no
  · have hlt : k < W.length := by
      rcases Nat.lt_or_ge k W.length with q | q
      · exact q
      · exact absurd (nI_le q (by omega)) c_5
    have qk : W[k]? = some W[k] := List.getElem?_eq_getElem hlt
    generalize W[k] = w at qk
    obtain ⟨r10, r11, rb, -⟩ := wds_o hW qk
    have i8 : vp_in (nI k) (mo_len 8) := vp_in_nI (show k < 1501 by omega) (by decide)
    have i10 : vp_in (nI k) (mo_len 10) := vp_in_nI (show k < 1501 by omega) (by decide)
    refine ev_aload_n d_Model_isDigits_8 rfl rfl ?_
    refine mo_get (fa_Model_31 rfl rfl) d_Model_isDigits_9 rfl ?_
    refine ev_iload_n d_Model_isDigits_12 rfl rfl ?_
    refine mo_ald hT d_Model_isDigits_13 (by decide) i8 ?_
    refine ev_iconst (v := 4) d_Model_isDigits_14 (by decide) ?_
    refine ev_icmp_ne (tgt := 36) d_Model_isDigits_15 (by decide) (fun c_15 => ?_) (fun c_15 => ?_)
    · exact no
    · refine ev_aload_n d_Model_isDigits_18 rfl rfl ?_
      refine ev_iload_n d_Model_isDigits_19 rfl rfl ?_
      refine mo_Vv [.int (nI k)] [] ca_Model_isDigits_268 d_Model_isDigits_20 rfl (Nat.le_of_ble_eq_true rfl) (c_Model_longOf hT hW hl qk) ?_
      refine ev_iload_n d_Model_isDigits_23 rfl rfl ?_
      refine ev_icmp_lt (tgt := 36) d_Model_isDigits_24 (by decide) (fun c_24 => ?_) (fun c_24 => ?_)
      · exact no
      · refine ev_aload_n d_Model_isDigits_27 rfl rfl ?_
        refine ev_iload_n d_Model_isDigits_28 rfl rfl ?_
        refine mo_Vv [.int (nI k)] [] ca_Model_isDigits_268 d_Model_isDigits_29 rfl (Nat.le_of_ble_eq_true rfl) (c_Model_longOf hT hW hl qk) ?_
        refine ev_iload_n d_Model_isDigits_32 rfl rfl ?_
        refine ev_icmp_le (tgt := 38) d_Model_isDigits_33 (by decide) (fun c_33 => ?_) (fun c_33 => ?_)
        · refine ev_aload_n d_Model_isDigits_38 rfl rfl ?_
          refine mo_get (fa_Model_37 rfl rfl) d_Model_isDigits_39 rfl ?_
          refine ev_iload_n d_Model_isDigits_42 rfl rfl ?_
          refine mo_ald hT d_Model_isDigits_43 (by decide) i10 ?_
          rw [nI_clamp (by omega), r10]
          refine ev_istore d_Model_isDigits_44 (by decide) ?_
          refine ev_to (l_Model_isDigits hT (by omega) r11 (by omega) w.2.2.length _ rfl) ?_
          rintro o h' ⟨v, rfl, ⟨z, rfl⟩, rfl⟩
          exact ⟨_, rfl, ⟨_, rfl, fun _ => hlt⟩, rfl⟩
        · exact no
theorem l_Model_numberOf (hT : (gl_t G)[0]? = some (cI, .int)) {e : Nat} (he : e ≤ 1600) {x0 : Int32} : ∀ (d i : Nat) (x : Int32), i + d = e → ev_E G m_Model_numberOf 5 [(0, .ref M), (1, .int x0), (2, .int (nI e)), (3, .int x), (4, .int (nI i))] [] (mo_ov cI cZ h0 M I R) (pu (mo_ov cI cZ h0 M I R)) := by
  intro d
  induction d with
  | zero =>
    intro i x hi
    refine ev_iload d_Model_numberOf_5 rfl ?_
    refine ev_iload_n d_Model_numberOf_7 rfl rfl ?_
    refine ev_icmp_ge (tgt := 44) d_Model_numberOf_8 (by decide) (fun _ => ?_) (fun z => absurd (nI_le (by omega) (by omega)) z)
    refine ev_iload_n d_Model_numberOf_44 rfl rfl ?_
    refine ev_iret d_Model_numberOf_45 rfl ?_
    exact ⟨_, rfl, ⟨_, rfl⟩, rfl⟩
  | succ d ih =>
    intro i x hi
    have i12 : vp_in (nI i) (mo_len 12) := vp_in_nI (show i < 1600 by omega) (by decide)
    have on : ∀ y : Int32, ev_E G m_Model_numberOf 37 [(0, .ref M), (1, .int x0), (2, .int (nI e)), (3, .int x), (4, .int (nI i))] [.int y] (mo_ov cI cZ h0 M I R) (pu (mo_ov cI cZ h0 M I R)) := by
      intro y
      refine ev_istore_n d_Model_numberOf_37 rfl (by decide) ?_
      refine ev_iinc d_Model_numberOf_38 rfl (by decide) ?_
      refine ev_goto (tgt := 5) d_Model_numberOf_41 (by decide) ?_
      rw [show nI i + Int32.ofInt 1 = nI (i + 1) from nI_1 i]
      exact ih (i + 1) y (by omega)
    refine ev_iload d_Model_numberOf_5 rfl ?_
    refine ev_iload_n d_Model_numberOf_7 rfl rfl ?_
    refine ev_icmp_ge (tgt := 44) d_Model_numberOf_8 (by decide) (fun z => absurd z (nI_ge (by omega) (by omega))) (fun _ => ?_)
    refine ev_iload_n d_Model_numberOf_11 rfl rfl ?_
    refine ev_ldcw (v := 100000) (List.mem_cons_of_mem _ tw_1271) d_Model_numberOf_12 ?_
    refine ev_icmp_le (tgt := 22) d_Model_numberOf_15 (by decide) (fun c_15 => ?_) (fun c_15 => ?_)
    · refine ev_bipush (v := 10) d_Model_numberOf_22 (by decide) ?_
      refine ev_iload_n d_Model_numberOf_24 rfl rfl ?_
      refine ev_imul d_Model_numberOf_25 ?_
      refine ev_aload_n d_Model_numberOf_26 rfl rfl ?_
      refine mo_get (fa_Model_43 rfl rfl) d_Model_numberOf_27 rfl ?_
      refine ev_iload d_Model_numberOf_30 rfl ?_
      refine mo_ald hT d_Model_numberOf_32 (by decide) i12 ?_
      refine ev_iadd d_Model_numberOf_33 ?_
      refine ev_bipush (v := 48) d_Model_numberOf_34 (by decide) ?_
      refine ev_isub d_Model_numberOf_36 ?_
      exact on _
    · refine ev_iload_n d_Model_numberOf_18 rfl rfl ?_
      refine ev_goto (tgt := 37) d_Model_numberOf_19 (by decide) ?_
      exact on _
theorem c_Model_numberOf (hT : (gl_t G)[0]? = some (cI, .int)) {a e : Nat} (hae : a ≤ e) (he : e ≤ 1600) : ct_E G m_Model_numberOf [.ref M, .int (nI a), .int (nI e)] (mo_ov cI cZ h0 M I R) (pu (mo_ov cI cZ h0 M I R)) := by
  refine ct_of (ws' := tb_all) rfl rfl (Nat.le_of_ble_eq_true rfl) ?_
  refine ev_iconst (v := 0) d_Model_numberOf_0 (by decide) ?_
  refine ev_istore_n d_Model_numberOf_1 rfl (by decide) ?_
  refine ev_iload_n d_Model_numberOf_2 rfl rfl ?_
  refine ev_istore d_Model_numberOf_3 (by decide) ?_
  exact l_Model_numberOf hT he (e - a) a _ (by omega)
theorem c_Model_number (hT : (gl_t G)[0]? = some (cI, .int)) (hW : wOk W I R) (hl : W.length ≤ 1501) (hb : (wB W).length ≤ 1501) {k : Nat} (hk : k < W.length) : ct_E G m_Model_number [.ref M, .int (nI k)] (mo_ov cI cZ h0 M I R) (pu (mo_ov cI cZ h0 M I R)) := by
  have qk : W[k]? = some W[k] := List.getElem?_eq_getElem hk
  generalize W[k] = w at qk
  obtain ⟨r10, r11, rb, -⟩ := wds_o hW qk
  have i10 : vp_in (nI k) (mo_len 10) := vp_in_nI (show k < 1501 by omega) (by decide)
  have i11 : vp_in (nI k) (mo_len 11) := vp_in_nI (show k < 1501 by omega) (by decide)
  refine ct_of (ws' := tb_all) rfl rfl (Nat.le_of_ble_eq_true rfl) ?_
  refine ev_aload_n d_Model_number_0 rfl rfl ?_
  refine ev_aload_n d_Model_number_1 rfl rfl ?_
  refine mo_get (fa_Model_37 rfl rfl) d_Model_number_2 rfl ?_
  refine ev_iload_n d_Model_number_5 rfl rfl ?_
  refine mo_ald hT d_Model_number_6 (by decide) i10 ?_
  rw [nI_clamp (by omega), r10]
  refine ev_aload_n d_Model_number_7 rfl rfl ?_
  refine mo_get (fa_Model_40 rfl rfl) d_Model_number_8 rfl ?_
  refine ev_iload_n d_Model_number_11 rfl rfl ?_
  refine mo_ald hT d_Model_number_12 (by decide) i11 ?_
  rw [nI_clamp (by omega), r11]
  refine mo_Vr [.int (nI (wB (W.take k)).length), .int (nI ((wB (W.take k)).length + w.2.2.length))] [] ca_Model_number_275 d_Model_number_13 rfl (Nat.le_of_ble_eq_true rfl) (c_Model_numberOf hT (by omega) (by omega)) (fun v h1 z => ?_)
  obtain ⟨⟨x, rfl⟩, rfl⟩ := z
  refine ev_iret d_Model_number_16 rfl ?_
  exact ⟨_, rfl, ⟨_, rfl⟩, rfl⟩
theorem l_Model_isThree (hT : (gl_t G)[0]? = some (cI, .int)) {k o : Nat} (hk : k < 1501) (h10 : R 10 k = nI o) (ho : o + 3 ≤ 1600) {y : Int32} : ∀ (d i : Nat), i + d = 3 → ev_E G m_Model_isThree 3 [(0, .ref M), (1, .int (nI k)), (2, .int 0), (3, .int y), (4, .int (nI i))] [] (mo_ov cI cZ h0 M I R) (pu (mo_ov cI cZ h0 M I R)) := by
  have i10 : vp_in (nI k) (mo_len 10) := vp_in_nI (show k < 1501 by omega) (by decide)
  intro d
  induction d with
  | zero =>
    intro i hi
    refine ev_iload d_Model_isThree_3 rfl ?_
    refine ev_iconst (v := 3) d_Model_isThree_5 (by decide) ?_
    refine ev_icmp_ge (tgt := 53) d_Model_isThree_6 (by decide) (fun _ => ?_) (fun z => absurd (nI_le (a := 3) (b := i) (by omega) (by omega)) z)
    refine ev_iconst (v := 1) d_Model_isThree_53 (by decide) ?_
    refine ev_zret d_Model_isThree_54 rfl rfl ?_
    exact ⟨_, rfl, ⟨_, rfl⟩, rfl⟩
  | succ d ih =>
    intro i hi
    have i12 : vp_in (nI o + 0 + nI i) (mo_len 12) := by
      rw [show nI o + 0 + nI i = nI (o + i) from by rw [Int32.add_zero]; exact nI_add o i]
      exact vp_in_nI (show o + i < 1600 by omega) (by decide)
    refine ev_iload d_Model_isThree_3 rfl ?_
    refine ev_iconst (v := 3) d_Model_isThree_5 (by decide) ?_
    refine ev_icmp_ge (tgt := 53) d_Model_isThree_6 (by decide) (fun z => absurd z (nI_ge (a := i) (b := 3) (by omega) (by omega))) (fun _ => ?_)
    refine ev_aload_n d_Model_isThree_9 rfl rfl ?_
    refine mo_get (fa_Model_43 rfl rfl) d_Model_isThree_10 rfl ?_
    refine ev_aload_n d_Model_isThree_13 rfl rfl ?_
    refine mo_get (fa_Model_37 rfl rfl) d_Model_isThree_14 rfl ?_
    refine ev_iload_n d_Model_isThree_17 rfl rfl ?_
    refine mo_ald hT d_Model_isThree_18 (by decide) i10 ?_
    rw [nI_clamp (by omega), h10]
    refine ev_iload_n d_Model_isThree_19 rfl rfl ?_
    refine ev_iadd d_Model_isThree_20 ?_
    refine ev_iload d_Model_isThree_21 rfl ?_
    refine ev_iadd d_Model_isThree_23 ?_
    refine mo_ald hT d_Model_isThree_24 (by decide) i12 ?_
    refine ev_Sv [.int _] [] ca_Model_isThree_133 d_Model_isThree_25 rfl (Nat.le_of_ble_eq_true rfl) (c_Model_small _) ?_
    refine ev_iload_n d_Model_isThree_28 rfl rfl ?_
    refine ev_bipush (v := 16) d_Model_isThree_29 (by decide) ?_
    refine ev_bipush (v := 8) d_Model_isThree_31 (by decide) ?_
    refine ev_iload d_Model_isThree_33 rfl ?_
    refine ev_imul d_Model_isThree_35 ?_
    refine ev_isub d_Model_isThree_36 ?_
    refine ev_ishr d_Model_isThree_37 ?_
    refine ev_sipush (v := 255) d_Model_isThree_38 (by decide) ?_
    refine ev_iand d_Model_isThree_41 ?_
    refine ev_icmp_eq (tgt := 47) d_Model_isThree_42 (by decide) (fun c_42 => ?_) (fun c_42 => ?_)
    · refine ev_iinc d_Model_isThree_47 rfl (by decide) ?_
      refine ev_goto (tgt := 3) d_Model_isThree_50 (by decide) ?_
      rw [show nI i + Int32.ofInt 1 = nI (i + 1) from nI_1 i]
      exact ih (i + 1) (by omega)
    · refine ev_iconst (v := 0) d_Model_isThree_45 (by decide) ?_
      refine ev_zret d_Model_isThree_46 rfl rfl ?_
      exact ⟨_, rfl, ⟨_, rfl⟩, rfl⟩
theorem c_Model_isThree (hT : (gl_t G)[0]? = some (cI, .int)) {k o : Nat} (hk : k < 1501) (h10 : R 10 k = nI o) (ho : o + 3 ≤ 1600) (y : Int32) : ct_E G m_Model_isThree [.ref M, .int (nI k), .int 0, .int y] (mo_ov cI cZ h0 M I R) (pu (mo_ov cI cZ h0 M I R)) := by
  refine ct_of (ws' := tb_all) rfl rfl (Nat.le_of_ble_eq_true rfl) ?_
  refine ev_iconst (v := 0) d_Model_isThree_0 (by decide) ?_
  refine ev_istore d_Model_isThree_1 (by decide) ?_
  exact l_Model_isThree hT hk h10 ho 3 0 rfl
theorem c_Model_monthOf (hT : (gl_t G)[0]? = some (cI, .int)) (hW : wOk W I R) (hl : W.length ≤ 1501) (hb : (wB W).length ≤ 1501) {k : Nat} (hk : k ≤ 5000) : ct_E G m_Model_monthOf [.ref M, .int (nI k)] (mo_ov cI cZ h0 M I R) (cr (fun v h' => (∃ m : Nat, m ≤ 12 ∧ v = .int (nI m)) ∧ h' = mo_ov cI cZ h0 M I R)) := by
  refine ct_of (ws' := tb_all) rfl rfl (Nat.le_of_ble_eq_true rfl) ?_
  have no : ev_E G m_Model_monthOf 27 [(0, .ref M), (1, .int (nI k))] [] (mo_ov cI cZ h0 M I R) (cr (fun v h' => (∃ m : Nat, m ≤ 12 ∧ v = .int (nI m)) ∧ h' = mo_ov cI cZ h0 M I R)) := by
    refine ev_iconst (v := 0) d_Model_monthOf_27 (by decide) ?_
    refine ev_iret d_Model_monthOf_28 rfl ?_
    exact ⟨_, rfl, ⟨0, by decide, rfl⟩, rfl⟩
  refine ev_iload_n d_Model_monthOf_0 rfl rfl ?_
  refine ev_aload_n d_Model_monthOf_1 rfl rfl ?_
  refine mo_get (fa_Model_149 rfl rfl) d_Model_monthOf_2 rfl ?_
  rw [hW.1]
  refine ev_icmp_ge (tgt := 27) d_Model_monthOf_5 (by decide) (fun c_5 => ?_) (fun c_5 => ?_)
  · exact no
  · have hlt : k < W.length := by
      rcases Nat.lt_or_ge k W.length with q | q
      · exact q
      · exact absurd (nI_le q (by omega)) c_5
    have qk : W[k]? = some W[k] := List.getElem?_eq_getElem hlt
    generalize W[k] = w at qk
    obtain ⟨r10, r11, rb, -⟩ := wds_o hW qk
    have i8 : vp_in (nI k) (mo_len 8) := vp_in_nI (show k < 1501 by omega) (by decide)
    refine ev_aload_n d_Model_monthOf_8 rfl rfl ?_
    refine mo_get (fa_Model_31 rfl rfl) d_Model_monthOf_9 rfl ?_
    refine ev_iload_n d_Model_monthOf_12 rfl rfl ?_
    refine mo_ald hT d_Model_monthOf_13 (by decide) i8 ?_
    refine ev_iconst (v := 4) d_Model_monthOf_14 (by decide) ?_
    refine ev_icmp_ne (tgt := 27) d_Model_monthOf_15 (by decide) (fun c_15 => ?_) (fun c_15 => ?_)
    · exact no
    · refine ev_aload_n d_Model_monthOf_18 rfl rfl ?_
      refine ev_iload_n d_Model_monthOf_19 rfl rfl ?_
      refine mo_Vv [.int (nI k)] [] ca_Model_monthOf_268 d_Model_monthOf_20 rfl (Nat.le_of_ble_eq_true rfl) (c_Model_longOf hT hW hl qk) ?_
      refine ev_iconst (v := 3) d_Model_monthOf_23 (by decide) ?_
      refine ev_icmp_ge (tgt := 29) d_Model_monthOf_24 (by decide) (fun c_24 => ?_) (fun c_24 => ?_)
      · refine ev_aload_n d_Model_monthOf_29 rfl rfl ?_
        refine ev_iload_n d_Model_monthOf_30 rfl rfl ?_
        refine ev_iconst (v := 0) d_Model_monthOf_31 (by decide) ?_
        refine ev_ldcw (v := 6971758) (List.mem_cons_of_mem _ tw_1280) d_Model_monthOf_32 ?_
        refine mo_Vr [.int (nI k), .int 0, .int _] [] ca_Model_monthOf_279 d_Model_monthOf_35 rfl (Nat.le_of_ble_eq_true rfl) (c_Model_isThree hT (by omega) r10 (by omega) _) (fun v h1 z => ?_)
        obtain ⟨⟨x1, rfl⟩, rfl⟩ := z
        refine ev_if_eq (tgt := 43) d_Model_monthOf_38 (by decide) (fun _ => ?_) (fun _ => ?_)
        rotate_left
        · refine ev_iconst (v := 1) d_Model_monthOf_41 (by decide) ?_
          refine ev_iret d_Model_monthOf_42 rfl ?_
          exact ⟨_, rfl, ⟨1, by decide, rfl⟩, rfl⟩
        refine ev_aload_n d_Model_monthOf_43 rfl rfl ?_
        refine ev_iload_n d_Model_monthOf_44 rfl rfl ?_
        refine ev_iconst (v := 0) d_Model_monthOf_45 (by decide) ?_
        refine ev_ldcw (v := 6710626) (List.mem_cons_of_mem _ tw_1285) d_Model_monthOf_46 ?_
        refine mo_Vr [.int (nI k), .int 0, .int _] [] ca_Model_monthOf_279 d_Model_monthOf_49 rfl (Nat.le_of_ble_eq_true rfl) (c_Model_isThree hT (by omega) r10 (by omega) _) (fun v h1 z => ?_)
        obtain ⟨⟨x2, rfl⟩, rfl⟩ := z
        refine ev_if_eq (tgt := 57) d_Model_monthOf_52 (by decide) (fun _ => ?_) (fun _ => ?_)
        rotate_left
        · refine ev_iconst (v := 2) d_Model_monthOf_55 (by decide) ?_
          refine ev_iret d_Model_monthOf_56 rfl ?_
          exact ⟨_, rfl, ⟨2, by decide, rfl⟩, rfl⟩
        refine ev_aload_n d_Model_monthOf_57 rfl rfl ?_
        refine ev_iload_n d_Model_monthOf_58 rfl rfl ?_
        refine ev_iconst (v := 0) d_Model_monthOf_59 (by decide) ?_
        refine ev_ldcw (v := 7168370) (List.mem_cons_of_mem _ tw_1286) d_Model_monthOf_60 ?_
        refine mo_Vr [.int (nI k), .int 0, .int _] [] ca_Model_monthOf_279 d_Model_monthOf_63 rfl (Nat.le_of_ble_eq_true rfl) (c_Model_isThree hT (by omega) r10 (by omega) _) (fun v h1 z => ?_)
        obtain ⟨⟨x3, rfl⟩, rfl⟩ := z
        refine ev_if_eq (tgt := 71) d_Model_monthOf_66 (by decide) (fun _ => ?_) (fun _ => ?_)
        rotate_left
        · refine ev_iconst (v := 3) d_Model_monthOf_69 (by decide) ?_
          refine ev_iret d_Model_monthOf_70 rfl ?_
          exact ⟨_, rfl, ⟨3, by decide, rfl⟩, rfl⟩
        refine ev_aload_n d_Model_monthOf_71 rfl rfl ?_
        refine ev_iload_n d_Model_monthOf_72 rfl rfl ?_
        refine ev_iconst (v := 0) d_Model_monthOf_73 (by decide) ?_
        refine ev_ldcw (v := 6385778) (List.mem_cons_of_mem _ tw_1287) d_Model_monthOf_74 ?_
        refine mo_Vr [.int (nI k), .int 0, .int _] [] ca_Model_monthOf_279 d_Model_monthOf_77 rfl (Nat.le_of_ble_eq_true rfl) (c_Model_isThree hT (by omega) r10 (by omega) _) (fun v h1 z => ?_)
        obtain ⟨⟨x4, rfl⟩, rfl⟩ := z
        refine ev_if_eq (tgt := 85) d_Model_monthOf_80 (by decide) (fun _ => ?_) (fun _ => ?_)
        rotate_left
        · refine ev_iconst (v := 4) d_Model_monthOf_83 (by decide) ?_
          refine ev_iret d_Model_monthOf_84 rfl ?_
          exact ⟨_, rfl, ⟨4, by decide, rfl⟩, rfl⟩
        refine ev_aload_n d_Model_monthOf_85 rfl rfl ?_
        refine ev_iload_n d_Model_monthOf_86 rfl rfl ?_
        refine ev_iconst (v := 0) d_Model_monthOf_87 (by decide) ?_
        refine ev_ldcw (v := 7168377) (List.mem_cons_of_mem _ tw_1288) d_Model_monthOf_88 ?_
        refine mo_Vr [.int (nI k), .int 0, .int _] [] ca_Model_monthOf_279 d_Model_monthOf_91 rfl (Nat.le_of_ble_eq_true rfl) (c_Model_isThree hT (by omega) r10 (by omega) _) (fun v h1 z => ?_)
        obtain ⟨⟨x5, rfl⟩, rfl⟩ := z
        refine ev_if_eq (tgt := 99) d_Model_monthOf_94 (by decide) (fun _ => ?_) (fun _ => ?_)
        rotate_left
        · refine ev_iconst (v := 5) d_Model_monthOf_97 (by decide) ?_
          refine ev_iret d_Model_monthOf_98 rfl ?_
          exact ⟨_, rfl, ⟨5, by decide, rfl⟩, rfl⟩
        refine ev_aload_n d_Model_monthOf_99 rfl rfl ?_
        refine ev_iload_n d_Model_monthOf_100 rfl rfl ?_
        refine ev_iconst (v := 0) d_Model_monthOf_101 (by decide) ?_
        refine ev_ldcw (v := 6976878) (List.mem_cons_of_mem _ tw_1289) d_Model_monthOf_102 ?_
        refine mo_Vr [.int (nI k), .int 0, .int _] [] ca_Model_monthOf_279 d_Model_monthOf_105 rfl (Nat.le_of_ble_eq_true rfl) (c_Model_isThree hT (by omega) r10 (by omega) _) (fun v h1 z => ?_)
        obtain ⟨⟨x6, rfl⟩, rfl⟩ := z
        refine ev_if_eq (tgt := 114) d_Model_monthOf_108 (by decide) (fun _ => ?_) (fun _ => ?_)
        rotate_left
        · refine ev_bipush (v := 6) d_Model_monthOf_111 (by decide) ?_
          refine ev_iret d_Model_monthOf_113 rfl ?_
          exact ⟨_, rfl, ⟨6, by decide, rfl⟩, rfl⟩
        refine ev_aload_n d_Model_monthOf_114 rfl rfl ?_
        refine ev_iload_n d_Model_monthOf_115 rfl rfl ?_
        refine ev_iconst (v := 0) d_Model_monthOf_116 (by decide) ?_
        refine ev_ldcw (v := 6976876) (List.mem_cons_of_mem _ tw_1290) d_Model_monthOf_117 ?_
        refine mo_Vr [.int (nI k), .int 0, .int _] [] ca_Model_monthOf_279 d_Model_monthOf_120 rfl (Nat.le_of_ble_eq_true rfl) (c_Model_isThree hT (by omega) r10 (by omega) _) (fun v h1 z => ?_)
        obtain ⟨⟨x7, rfl⟩, rfl⟩ := z
        refine ev_if_eq (tgt := 129) d_Model_monthOf_123 (by decide) (fun _ => ?_) (fun _ => ?_)
        rotate_left
        · refine ev_bipush (v := 7) d_Model_monthOf_126 (by decide) ?_
          refine ev_iret d_Model_monthOf_128 rfl ?_
          exact ⟨_, rfl, ⟨7, by decide, rfl⟩, rfl⟩
        refine ev_aload_n d_Model_monthOf_129 rfl rfl ?_
        refine ev_iload_n d_Model_monthOf_130 rfl rfl ?_
        refine ev_iconst (v := 0) d_Model_monthOf_131 (by decide) ?_
        refine ev_ldcw (v := 6387047) (List.mem_cons_of_mem _ tw_1291) d_Model_monthOf_132 ?_
        refine mo_Vr [.int (nI k), .int 0, .int _] [] ca_Model_monthOf_279 d_Model_monthOf_135 rfl (Nat.le_of_ble_eq_true rfl) (c_Model_isThree hT (by omega) r10 (by omega) _) (fun v h1 z => ?_)
        obtain ⟨⟨x8, rfl⟩, rfl⟩ := z
        refine ev_if_eq (tgt := 144) d_Model_monthOf_138 (by decide) (fun _ => ?_) (fun _ => ?_)
        rotate_left
        · refine ev_bipush (v := 8) d_Model_monthOf_141 (by decide) ?_
          refine ev_iret d_Model_monthOf_143 rfl ?_
          exact ⟨_, rfl, ⟨8, by decide, rfl⟩, rfl⟩
        refine ev_aload_n d_Model_monthOf_144 rfl rfl ?_
        refine ev_iload_n d_Model_monthOf_145 rfl rfl ?_
        refine ev_iconst (v := 0) d_Model_monthOf_146 (by decide) ?_
        refine ev_ldcw (v := 7562608) (List.mem_cons_of_mem _ tw_1292) d_Model_monthOf_147 ?_
        refine mo_Vr [.int (nI k), .int 0, .int _] [] ca_Model_monthOf_279 d_Model_monthOf_150 rfl (Nat.le_of_ble_eq_true rfl) (c_Model_isThree hT (by omega) r10 (by omega) _) (fun v h1 z => ?_)
        obtain ⟨⟨x9, rfl⟩, rfl⟩ := z
        refine ev_if_eq (tgt := 159) d_Model_monthOf_153 (by decide) (fun _ => ?_) (fun _ => ?_)
        rotate_left
        · refine ev_bipush (v := 9) d_Model_monthOf_156 (by decide) ?_
          refine ev_iret d_Model_monthOf_158 rfl ?_
          exact ⟨_, rfl, ⟨9, by decide, rfl⟩, rfl⟩
        refine ev_aload_n d_Model_monthOf_159 rfl rfl ?_
        refine ev_iload_n d_Model_monthOf_160 rfl rfl ?_
        refine ev_iconst (v := 0) d_Model_monthOf_161 (by decide) ?_
        refine ev_ldcw (v := 7299956) (List.mem_cons_of_mem _ tw_1293) d_Model_monthOf_162 ?_
        refine mo_Vr [.int (nI k), .int 0, .int _] [] ca_Model_monthOf_279 d_Model_monthOf_165 rfl (Nat.le_of_ble_eq_true rfl) (c_Model_isThree hT (by omega) r10 (by omega) _) (fun v h1 z => ?_)
        obtain ⟨⟨x10, rfl⟩, rfl⟩ := z
        refine ev_if_eq (tgt := 174) d_Model_monthOf_168 (by decide) (fun _ => ?_) (fun _ => ?_)
        rotate_left
        · refine ev_bipush (v := 10) d_Model_monthOf_171 (by decide) ?_
          refine ev_iret d_Model_monthOf_173 rfl ?_
          exact ⟨_, rfl, ⟨10, by decide, rfl⟩, rfl⟩
        refine ev_aload_n d_Model_monthOf_174 rfl rfl ?_
        refine ev_iload_n d_Model_monthOf_175 rfl rfl ?_
        refine ev_iconst (v := 0) d_Model_monthOf_176 (by decide) ?_
        refine ev_ldcw (v := 7237494) (List.mem_cons_of_mem _ tw_1294) d_Model_monthOf_177 ?_
        refine mo_Vr [.int (nI k), .int 0, .int _] [] ca_Model_monthOf_279 d_Model_monthOf_180 rfl (Nat.le_of_ble_eq_true rfl) (c_Model_isThree hT (by omega) r10 (by omega) _) (fun v h1 z => ?_)
        obtain ⟨⟨x11, rfl⟩, rfl⟩ := z
        refine ev_if_eq (tgt := 189) d_Model_monthOf_183 (by decide) (fun _ => ?_) (fun _ => ?_)
        rotate_left
        · refine ev_bipush (v := 11) d_Model_monthOf_186 (by decide) ?_
          refine ev_iret d_Model_monthOf_188 rfl ?_
          exact ⟨_, rfl, ⟨11, by decide, rfl⟩, rfl⟩
        refine ev_aload_n d_Model_monthOf_189 rfl rfl ?_
        refine ev_iload_n d_Model_monthOf_190 rfl rfl ?_
        refine ev_iconst (v := 0) d_Model_monthOf_191 (by decide) ?_
        refine ev_ldcw (v := 6579555) (List.mem_cons_of_mem _ tw_1295) d_Model_monthOf_192 ?_
        refine mo_Vr [.int (nI k), .int 0, .int _] [] ca_Model_monthOf_279 d_Model_monthOf_195 rfl (Nat.le_of_ble_eq_true rfl) (c_Model_isThree hT (by omega) r10 (by omega) _) (fun v h1 z => ?_)
        obtain ⟨⟨x12, rfl⟩, rfl⟩ := z
        refine ev_if_eq (tgt := 206) d_Model_monthOf_198 (by decide) (fun _ => ?_) (fun _ => ?_)
        · refine ev_iconst (v := 0) d_Model_monthOf_206 (by decide) ?_
          refine ev_iret d_Model_monthOf_207 rfl ?_
          exact ⟨_, rfl, ⟨0, by decide, rfl⟩, rfl⟩
        · refine ev_bipush (v := 12) d_Model_monthOf_201 (by decide) ?_
          refine ev_goto (tgt := 207) d_Model_monthOf_203 (by decide) ?_
          refine ev_iret d_Model_monthOf_207 rfl ?_
          exact ⟨_, rfl, ⟨12, by decide, rfl⟩, rfl⟩
      · exact no
theorem c_Model_yearOf (hT : (gl_t G)[0]? = some (cI, .int)) (hW : wOk W I R) (hl : W.length ≤ 1501) (hb : (wB W).length ≤ 1501) {k : Nat} (hk : k ≤ 5000) : ct_E G m_Model_yearOf [.ref M, .int (nI k)] (mo_ov cI cZ h0 M I R) (pu (mo_ov cI cZ h0 M I R)) := by
  refine ct_of (ws' := tb_all) rfl rfl (Nat.le_of_ble_eq_true rfl) ?_
  refine ev_aload_n d_Model_yearOf_0 rfl rfl ?_
  refine ev_iload_n d_Model_yearOf_1 rfl rfl ?_
  refine ev_iconst (v := 2) d_Model_yearOf_2 (by decide) ?_
  refine ev_bipush (v := 9) d_Model_yearOf_3 (by decide) ?_
  refine mo_Vr [.int (nI k), .int 2, .int 9] [] ca_Model_yearOf_294 d_Model_yearOf_5 rfl (Nat.le_of_ble_eq_true rfl) (c_Model_isDigits hT hW hl hb hk 2 9) (fun v h1 z => ?_)
  obtain ⟨⟨x, rfl, hx⟩, rfl⟩ := z
  refine ev_if_ne (tgt := 13) d_Model_yearOf_8 (by decide) (fun c_8 => ?_) (fun c_8 => ?_)
  · have hlt := hx c_8
    have qk : W[k]? = some W[k] := List.getElem?_eq_getElem hlt
    generalize W[k] = w at qk
    refine ev_aload_n d_Model_yearOf_13 rfl rfl ?_
    refine ev_iload_n d_Model_yearOf_14 rfl rfl ?_
    refine mo_Vr [.int (nI k)] [] ca_Model_yearOf_297 d_Model_yearOf_15 rfl (Nat.le_of_ble_eq_true rfl) (c_Model_number hT hW hl hb hlt) (fun v h1 z => ?_)
    obtain ⟨⟨y, rfl⟩, rfl⟩ := z
    refine ev_istore_n d_Model_yearOf_18 rfl (by decide) ?_
    refine ev_aload_n d_Model_yearOf_19 rfl rfl ?_
    refine ev_iload_n d_Model_yearOf_20 rfl rfl ?_
    refine mo_Vv [.int (nI k)] [] ca_Model_yearOf_268 d_Model_yearOf_21 rfl (Nat.le_of_ble_eq_true rfl) (c_Model_longOf hT hW hl qk) ?_
    refine ev_istore_n d_Model_yearOf_24 rfl (by decide) ?_
    refine ev_iload_n d_Model_yearOf_25 rfl rfl ?_
    refine ev_iconst (v := 2) d_Model_yearOf_26 (by decide) ?_
    have fin : ∀ u : Int32, ev_E G m_Model_yearOf 66 [(0, .ref M), (1, .int (nI k)), (2, .int y), (3, .int (nI w.2.2.length))] [.int u] (mo_ov cI cZ h0 M I R) (pu (mo_ov cI cZ h0 M I R)) := by
      intro u
      refine ev_iret d_Model_yearOf_66 rfl ?_
      exact ⟨_, rfl, ⟨_, rfl⟩, rfl⟩
    refine ev_icmp_ne (tgt := 52) d_Model_yearOf_27 (by decide) (fun c_27 => ?_) (fun c_27 => ?_)
    · refine ev_iload_n d_Model_yearOf_52 rfl rfl ?_
      refine ev_iconst (v := 3) d_Model_yearOf_53 (by decide) ?_
      refine ev_icmp_ne (tgt := 65) d_Model_yearOf_54 (by decide) (fun c_54 => ?_) (fun c_54 => ?_)
      · refine ev_iload_n d_Model_yearOf_65 rfl rfl ?_
        exact fin _
      · refine ev_sipush (v := 1900) d_Model_yearOf_57 (by decide) ?_
        refine ev_iload_n d_Model_yearOf_60 rfl rfl ?_
        refine ev_iadd d_Model_yearOf_61 ?_
        refine ev_goto (tgt := 66) d_Model_yearOf_62 (by decide) ?_
        exact fin _
    · refine ev_iload_n d_Model_yearOf_30 rfl rfl ?_
      refine ev_bipush (v := 50) d_Model_yearOf_31 (by decide) ?_
      refine ev_icmp_ge (tgt := 44) d_Model_yearOf_33 (by decide) (fun c_33 => ?_) (fun c_33 => ?_)
      · refine ev_sipush (v := 1900) d_Model_yearOf_44 (by decide) ?_
        refine ev_iload_n d_Model_yearOf_47 rfl rfl ?_
        refine ev_iadd d_Model_yearOf_48 ?_
        refine ev_goto (tgt := 66) d_Model_yearOf_49 (by decide) ?_
        exact fin _
      · refine ev_sipush (v := 2000) d_Model_yearOf_36 (by decide) ?_
        refine ev_iload_n d_Model_yearOf_39 rfl rfl ?_
        refine ev_iadd d_Model_yearOf_40 ?_
        refine ev_goto (tgt := 66) d_Model_yearOf_41 (by decide) ?_
        exact fin _
  · refine ev_iconst (v := (-1)) d_Model_yearOf_11 (by decide) ?_
    refine ev_iret d_Model_yearOf_12 rfl ?_
    exact ⟨_, rfl, ⟨_, rfl⟩, rfl⟩
theorem c_Model_two (hT : (gl_t G)[0]? = some (cI, .int)) (hW : wOk W I R) (hl : W.length ≤ 1501) (hb : (wB W).length ≤ 1501) {w : Nat} (hw : I 44 = nI w) (hw2 : w ≤ 5000) (y : Int32) : ct_E G m_Model_two [.ref M, .int y] (mo_ov cI cZ h0 M I R) (pu (mo_ov cI cZ h0 M I R)) := by
  refine ct_of (ws' := tb_all) rfl rfl (Nat.le_of_ble_eq_true rfl) ?_
  have fin : ∀ u : Int32, ev_E G m_Model_two 25 [(0, .ref M), (1, .int y)] [.int u] (mo_ov cI cZ h0 M I R) (pu (mo_ov cI cZ h0 M I R)) := by
    intro u
    refine ev_istore_n d_Model_two_25 rfl (by decide) ?_
    refine ev_iload_n d_Model_two_26 rfl rfl ?_
    refine ev_iload_n d_Model_two_27 rfl rfl ?_
    refine ev_icmp_ge (tgt := 35) d_Model_two_28 (by decide) (fun c_28 => ?_) (fun c_28 => ?_)
    · refine ev_iconst (v := (-1)) d_Model_two_35 (by decide) ?_
      refine ev_iret d_Model_two_36 rfl ?_
      exact ⟨_, rfl, ⟨_, rfl⟩, rfl⟩
    · refine ev_iload_n d_Model_two_31 rfl rfl ?_
      refine ev_goto (tgt := 36) d_Model_two_32 (by decide) ?_
      refine ev_iret d_Model_two_36 rfl ?_
      exact ⟨_, rfl, ⟨_, rfl⟩, rfl⟩
  refine ev_aload_n d_Model_two_0 rfl rfl ?_
  refine ev_aload_n d_Model_two_1 rfl rfl ?_
  refine mo_get (fa_Model_265 rfl rfl) d_Model_two_2 rfl ?_
  rw [hw]
  refine ev_iconst (v := 2) d_Model_two_5 (by decide) ?_
  refine ev_iconst (v := 2) d_Model_two_6 (by decide) ?_
  refine mo_Vr [.int (nI w), .int 2, .int 2] [] ca_Model_two_294 d_Model_two_7 rfl (Nat.le_of_ble_eq_true rfl) (c_Model_isDigits hT hW hl hb hw2 2 2) (fun v h1 z => ?_)
  obtain ⟨⟨x, rfl, hx⟩, rfl⟩ := z
  refine ev_if_eq (tgt := 24) d_Model_two_10 (by decide) (fun c_10 => ?_) (fun c_10 => ?_)
  · refine ev_iconst (v := (-1)) d_Model_two_24 (by decide) ?_
    exact fin _
  · refine ev_aload_n d_Model_two_13 rfl rfl ?_
    refine ev_aload_n d_Model_two_14 rfl rfl ?_
    refine mo_get (fa_Model_265 rfl rfl) d_Model_two_15 rfl ?_
    rw [hw]
    refine mo_Vr [.int (nI w)] [] ca_Model_two_297 d_Model_two_18 rfl (Nat.le_of_ble_eq_true rfl) (c_Model_number hT hW hl hb (hx c_10)) (fun v h1 z => ?_)
    obtain ⟨⟨u, rfl⟩, rfl⟩ := z
    refine ev_goto (tgt := 25) d_Model_two_21 (by decide) ?_
    exact fin _
end DATE1
