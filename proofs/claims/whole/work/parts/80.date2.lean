section DATE2
variable {G : gl_G} {cI cZ : ClassId} {h0 : hp_T} {M : Nat} {I : Nat → Int32} {R : Nat → Nat → Int32} {W : Wds}
theorem c_Model_isLeap {h : hp_T} (y : Int32) : ct_E G m_Model_isLeap [.int y] h (pu h) := by
  refine ct_of (ws' := tb_all) rfl rfl (Nat.le_of_ble_eq_true rfl) ?_
  have no : ev_E G m_Model_isLeap 25 [(0, .int y)] [] h (pu h) := by
    refine ev_iconst (v := 0) d_Model_isLeap_25 (by decide) ?_
    refine ev_zret d_Model_isLeap_26 rfl rfl ?_
    exact ⟨_, rfl, ⟨_, rfl⟩, rfl⟩
  have yes : ev_E G m_Model_isLeap 21 [(0, .int y)] [] h (pu h) := by
    refine ev_iconst (v := 1) d_Model_isLeap_21 (by decide) ?_
    refine ev_goto (tgt := 26) d_Model_isLeap_22 (by decide) ?_
    refine ev_zret d_Model_isLeap_26 rfl rfl ?_
    exact ⟨_, rfl, ⟨_, rfl⟩, rfl⟩
  refine ev_iload_n d_Model_isLeap_0 rfl rfl ?_
  refine ev_iconst (v := 4) d_Model_isLeap_1 (by decide) ?_
  refine ev_irem d_Model_isLeap_2 (by decide) ?_
  refine ev_if_ne (tgt := 25) d_Model_isLeap_3 (by decide) (fun c_3 => ?_) (fun c_3 => ?_)
  · exact no
  · refine ev_iload_n d_Model_isLeap_6 rfl rfl ?_
    refine ev_bipush (v := 100) d_Model_isLeap_7 (by decide) ?_
    refine ev_irem d_Model_isLeap_9 (by decide) ?_
    refine ev_if_ne (tgt := 21) d_Model_isLeap_10 (by decide) (fun c_10 => ?_) (fun c_10 => ?_)
    · exact yes
    · refine ev_iload_n d_Model_isLeap_13 rfl rfl ?_
      refine ev_sipush (v := 400) d_Model_isLeap_14 (by decide) ?_
      refine ev_irem d_Model_isLeap_17 (by decide) ?_
      refine ev_if_ne (tgt := 25) d_Model_isLeap_18 (by decide) (fun c_18 => ?_) (fun c_18 => ?_)
      · exact no
      · exact yes
theorem c_Model_daysOf {h : hp_T} (m y : Int32) : ct_E G m_Model_daysOf [.int m, .int y] h (pu h) := by
  refine ct_of (ws' := tb_all) rfl rfl (Nat.le_of_ble_eq_true rfl) ?_
  have a43 : ev_E G m_Model_daysOf 43 [(0, .int m), (1, .int y)] [] h (pu h) := by
    refine ev_bipush (v := 30) d_Model_daysOf_43 (by decide) ?_
    refine ev_goto (tgt := 50) d_Model_daysOf_45 (by decide) ?_
    refine ev_iret d_Model_daysOf_50 rfl ?_
    exact ⟨_, rfl, ⟨_, rfl⟩, rfl⟩
  refine ev_iload_n d_Model_daysOf_0 rfl rfl ?_
  refine ev_iconst (v := 2) d_Model_daysOf_1 (by decide) ?_
  refine ev_icmp_ne (tgt := 20) d_Model_daysOf_2 (by decide) (fun c_2 => ?_) (fun c_2 => ?_)
  · refine ev_iload_n d_Model_daysOf_20 rfl rfl ?_
    refine ev_iconst (v := 4) d_Model_daysOf_21 (by decide) ?_
    refine ev_icmp_eq (tgt := 43) d_Model_daysOf_22 (by decide) (fun c_22 => ?_) (fun c_22 => ?_)
    · exact a43
    · refine ev_iload_n d_Model_daysOf_25 rfl rfl ?_
      refine ev_bipush (v := 6) d_Model_daysOf_26 (by decide) ?_
      refine ev_icmp_eq (tgt := 43) d_Model_daysOf_28 (by decide) (fun c_28 => ?_) (fun c_28 => ?_)
      · exact a43
      · refine ev_iload_n d_Model_daysOf_31 rfl rfl ?_
        refine ev_bipush (v := 9) d_Model_daysOf_32 (by decide) ?_
        refine ev_icmp_eq (tgt := 43) d_Model_daysOf_34 (by decide) (fun c_34 => ?_) (fun c_34 => ?_)
        · exact a43
        · refine ev_iload_n d_Model_daysOf_37 rfl rfl ?_
          refine ev_bipush (v := 11) d_Model_daysOf_38 (by decide) ?_
          refine ev_icmp_ne (tgt := 48) d_Model_daysOf_40 (by decide) (fun c_40 => ?_) (fun c_40 => ?_)
          · refine ev_bipush (v := 31) d_Model_daysOf_48 (by decide) ?_
            refine ev_iret d_Model_daysOf_50 rfl ?_
            exact ⟨_, rfl, ⟨_, rfl⟩, rfl⟩
          · exact a43
  · refine ev_iload_n d_Model_daysOf_5 rfl rfl ?_
    refine ev_Sr [.int y] [] ca_Model_daysOf_300 d_Model_daysOf_6 rfl (Nat.le_of_ble_eq_true rfl) (c_Model_isLeap y) (fun v h1 z => ?_)
    obtain ⟨⟨x, rfl⟩, rfl⟩ := z
    refine ev_if_eq (tgt := 17) d_Model_daysOf_9 (by decide) (fun c_9 => ?_) (fun c_9 => ?_)
    · refine ev_bipush (v := 28) d_Model_daysOf_17 (by decide) ?_
      refine ev_iret d_Model_daysOf_19 rfl ?_
      exact ⟨_, rfl, ⟨_, rfl⟩, rfl⟩
    · refine ev_bipush (v := 29) d_Model_daysOf_12 (by decide) ?_
      refine ev_goto (tgt := 19) d_Model_daysOf_14 (by decide) ?_
      refine ev_iret d_Model_daysOf_19 rfl ?_
      exact ⟨_, rfl, ⟨_, rfl⟩, rfl⟩
/-- answers a long, leaves the cells -/
abbrev pl (h : hp_T) : Option Value → hp_T → Prop := cr (fun v h' => (∃ x : Int64, v = .long x) ∧ h' = h)
theorem l_Model_dn2 {d y : Int32} {mo : Nat} (hmo : mo ≤ 12) : ∀ (n i : Nat) (x : Int64), mo ≤ i + n → i ≤ 13 → ev_E G m_Model_dayNumber 45 [(0, .ref M), (1, .int d), (2, .int (nI mo)), (3, .int y), (4, .long x), (6, .int (nI i))] [] (mo_ov cI cZ h0 M I R) (pl (mo_ov cI cZ h0 M I R)) := by
  intro n
  induction n with
  | zero =>
    intro i x hi hi2
    refine ev_iload d_Model_dayNumber_45 rfl ?_
    refine ev_iload_n d_Model_dayNumber_47 rfl rfl ?_
    refine ev_icmp_ge (tgt := 69) d_Model_dayNumber_48 (by decide) (fun _ => ?_) (fun z => absurd (nI_le (by omega) (by omega)) z)
    refine ev_lload d_Model_dayNumber_69 rfl ?_
    refine ev_iload_n d_Model_dayNumber_71 rfl rfl ?_
    refine ev_i2l d_Model_dayNumber_72 ?_
    refine ev_ladd d_Model_dayNumber_73 ?_
    refine ev_lconst (v := 1) d_Model_dayNumber_74 (by decide) ?_
    refine ev_lsub d_Model_dayNumber_75 ?_
    refine ev_ldc2 (v := 25567) (List.mem_cons_of_mem _ tw_1316) d_Model_dayNumber_76 ?_
    refine ev_lsub d_Model_dayNumber_79 ?_
    refine ev_lret d_Model_dayNumber_80 rfl ?_
    exact ⟨_, rfl, ⟨_, rfl⟩, rfl⟩
  | succ n ih =>
    intro i x hi hi2
    refine ev_iload d_Model_dayNumber_45 rfl ?_
    refine ev_iload_n d_Model_dayNumber_47 rfl rfl ?_
    refine ev_icmp_ge (tgt := 69) d_Model_dayNumber_48 (by decide) (fun c_48 => ?_) (fun c_48 => ?_)
    · refine ev_lload d_Model_dayNumber_69 rfl ?_
      refine ev_iload_n d_Model_dayNumber_71 rfl rfl ?_
      refine ev_i2l d_Model_dayNumber_72 ?_
      refine ev_ladd d_Model_dayNumber_73 ?_
      refine ev_lconst (v := 1) d_Model_dayNumber_74 (by decide) ?_
      refine ev_lsub d_Model_dayNumber_75 ?_
      refine ev_ldc2 (v := 25567) (List.mem_cons_of_mem _ tw_1316) d_Model_dayNumber_76 ?_
      refine ev_lsub d_Model_dayNumber_79 ?_
      refine ev_lret d_Model_dayNumber_80 rfl ?_
      exact ⟨_, rfl, ⟨_, rfl⟩, rfl⟩
    · have hlt : i < mo := by
        rcases Nat.lt_or_ge i mo with q | q
        · exact q
        · exact absurd (nI_le q (by omega)) c_48
      refine ev_lload d_Model_dayNumber_51 rfl ?_
      refine ev_iload d_Model_dayNumber_53 rfl ?_
      refine ev_iload_n d_Model_dayNumber_55 rfl rfl ?_
      refine ev_Sr [.int (nI i), .int y] [.long x] ca_Model_dayNumber_315 d_Model_dayNumber_56 rfl (Nat.le_of_ble_eq_true rfl) (c_Model_daysOf (nI i) y) (fun v h1 z => ?_)
      obtain ⟨⟨u, rfl⟩, rfl⟩ := z
      refine ev_i2l d_Model_dayNumber_59 ?_
      refine ev_ladd d_Model_dayNumber_60 ?_
      refine ev_lstore d_Model_dayNumber_61 (by decide) ?_
      refine ev_iinc d_Model_dayNumber_63 rfl (by decide) ?_
      refine ev_goto (tgt := 45) d_Model_dayNumber_66 (by decide) ?_
      refine ev_as [(0, .ref M), (1, .int d), (2, .int (nI mo)), (3, .int y), (4, .long (x + u.toInt64)), (6, .int (nI (i + 1)))] ⟨rfl, rfl, rfl, rfl, rfl, ?_, trivial⟩ (ih (i + 1) _ (by omega) (by omega))
      show some (Value.int (nI i + 1)) = _
      rw [nI_succ]
theorem l_Model_dn1 {d : Int32} {mo y : Nat} (hmo : mo ≤ 12) (hy : y ≤ 2999) : ∀ (n i : Nat) (x : Int64), y ≤ i + n → i ≤ 3000 → ev_E G m_Model_dayNumber 8 [(0, .ref M), (1, .int d), (2, .int (nI mo)), (3, .int (nI y)), (4, .long x), (6, .int (nI i))] [] (mo_ov cI cZ h0 M I R) (pl (mo_ov cI cZ h0 M I R)) := by
  intro n
  induction n with
  | zero =>
    intro i x hi hi2
    refine ev_iload d_Model_dayNumber_8 rfl ?_
    refine ev_iload_n d_Model_dayNumber_10 rfl rfl ?_
    refine ev_icmp_ge (tgt := 42) d_Model_dayNumber_11 (by decide) (fun _ => ?_) (fun z => absurd (nI_le (by omega) (by omega)) z)
    refine ev_iconst (v := 1) d_Model_dayNumber_42 (by decide) ?_
    refine ev_istore d_Model_dayNumber_43 (by decide) ?_
    refine ev_as [(0, .ref M), (1, .int d), (2, .int (nI mo)), (3, .int (nI y)), (4, .long x), (6, .int (nI 1))] ⟨rfl, rfl, rfl, rfl, rfl, rfl, trivial⟩ (l_Model_dn2 hmo 12 1 x (by omega) (by decide))
  | succ n ih =>
    intro i x hi hi2
    refine ev_iload d_Model_dayNumber_8 rfl ?_
    refine ev_iload_n d_Model_dayNumber_10 rfl rfl ?_
    refine ev_icmp_ge (tgt := 42) d_Model_dayNumber_11 (by decide) (fun c_11 => ?_) (fun c_11 => ?_)
    · refine ev_iconst (v := 1) d_Model_dayNumber_42 (by decide) ?_
      refine ev_istore d_Model_dayNumber_43 (by decide) ?_
      refine ev_as [(0, .ref M), (1, .int d), (2, .int (nI mo)), (3, .int (nI y)), (4, .long x), (6, .int (nI 1))] ⟨rfl, rfl, rfl, rfl, rfl, rfl, trivial⟩ (l_Model_dn2 hmo 12 1 x (by omega) (by decide))
    · have hlt : i < y := by
        rcases Nat.lt_or_ge i y with q | q
        · exact q
        · exact absurd (nI_le q (by omega)) c_11
      have on : ∀ u : Int64, ev_E G m_Model_dayNumber 33 [(0, .ref M), (1, .int d), (2, .int (nI mo)), (3, .int (nI y)), (4, .long x), (6, .int (nI i))] [.long u, .long x] (mo_ov cI cZ h0 M I R) (pl (mo_ov cI cZ h0 M I R)) := by
        intro u
        refine ev_ladd d_Model_dayNumber_33 ?_
        refine ev_lstore d_Model_dayNumber_34 (by decide) ?_
        refine ev_iinc d_Model_dayNumber_36 rfl (by decide) ?_
        refine ev_goto (tgt := 8) d_Model_dayNumber_39 (by decide) ?_
        refine ev_as [(0, .ref M), (1, .int d), (2, .int (nI mo)), (3, .int (nI y)), (4, .long (x + u)), (6, .int (nI (i + 1)))] ⟨rfl, rfl, rfl, rfl, rfl, ?_, trivial⟩ (ih (i + 1) _ (by omega) (by omega))
        show some (Value.int (nI i + 1)) = _
        rw [nI_succ]
      refine ev_lload d_Model_dayNumber_14 rfl ?_
      refine ev_iload d_Model_dayNumber_16 rfl ?_
      refine ev_Sr [.int (nI i)] [.long x] ca_Model_dayNumber_300 d_Model_dayNumber_18 rfl (Nat.le_of_ble_eq_true rfl) (c_Model_isLeap (nI i)) (fun v h1 z => ?_)
      obtain ⟨⟨u, rfl⟩, rfl⟩ := z
      refine ev_if_eq (tgt := 30) d_Model_dayNumber_21 (by decide) (fun c_21 => ?_) (fun c_21 => ?_)
      · refine ev_ldc2 (v := 365) (List.mem_cons_of_mem _ tw_1315) d_Model_dayNumber_30 ?_
        exact on _
      · refine ev_ldc2 (v := 366) (List.mem_cons_of_mem _ tw_1314) d_Model_dayNumber_24 ?_
        refine ev_goto (tgt := 33) d_Model_dayNumber_27 (by decide) ?_
        exact on _
theorem c_Model_dayNumber {d : Int32} {mo y : Nat} (hmo : mo ≤ 12) (hy : y ≤ 2999) : ct_E G m_Model_dayNumber [.ref M, .int d, .int (nI mo), .int (nI y)] (mo_ov cI cZ h0 M I R) (pl (mo_ov cI cZ h0 M I R)) := by
  refine ct_of (ws' := tb_all) rfl rfl (Nat.le_of_ble_eq_true rfl) ?_
  refine ev_lconst (v := 0) d_Model_dayNumber_0 (by decide) ?_
  refine ev_lstore d_Model_dayNumber_1 (by decide) ?_
  refine ev_sipush (v := 1900) d_Model_dayNumber_3 (by decide) ?_
  refine ev_istore d_Model_dayNumber_6 (by decide) ?_
  refine ev_as [(0, .ref M), (1, .int d), (2, .int (nI mo)), (3, .int (nI y)), (4, .long 0), (6, .int (nI 1900))] ⟨rfl, rfl, rfl, rfl, rfl, rfl, trivial⟩ (l_Model_dn1 hmo hy 1100 1900 0 (by omega) (by decide))
theorem c_Model_zoneOf (hT : (gl_t G)[0]? = some (cI, .int)) (hW : wOk W I R) (hl : W.length ≤ 1501) (hb : (wB W).length ≤ 1501) {k : Nat} (hk : k ≤ 5000) : ct_E G m_Model_zoneOf [.ref M, .int (nI k)] (mo_ov cI cZ h0 M I R) (pu (mo_ov cI cZ h0 M I R)) := by
  refine ct_of (ws' := tb_all) rfl rfl (Nat.le_of_ble_eq_true rfl) ?_
  have no : ev_E G m_Model_zoneOf 18 [(0, .ref M), (1, .int (nI k))] [] (mo_ov cI cZ h0 M I R) (pu (mo_ov cI cZ h0 M I R)) := by
    refine ev_iconst (v := 0) d_Model_zoneOf_18 (by decide) ?_
    refine ev_iret d_Model_zoneOf_19 rfl ?_
    exact ⟨_, rfl, ⟨_, rfl⟩, rfl⟩
  refine ev_iload_n d_Model_zoneOf_0 rfl rfl ?_
  refine ev_aload_n d_Model_zoneOf_1 rfl rfl ?_
  refine mo_get (fa_Model_149 rfl rfl) d_Model_zoneOf_2 rfl ?_
  rw [hW.1]
  refine ev_icmp_ge (tgt := 18) d_Model_zoneOf_5 (by decide) (fun c_5 => ?_) (fun c_5 => ?_)
  · exact no
  · have hlt : k < W.length := by
      rcases Nat.lt_or_ge k W.length with q | q
      · exact q
      · exact absurd (nI_le q (by omega)) c_5
    have qk : W[k]? = some W[k] := List.getElem?_eq_getElem hlt
    generalize W[k] = w at qk
    obtain ⟨r10, r11, rb, -⟩ := wds_o hW qk
    obtain ⟨o, ho⟩ : ∃ o, (wB (W.take k)).length = o := ⟨_, rfl⟩
    rw [ho] at r10 rb
    have i8 : vp_in (nI k) (mo_len 8) := vp_in_nI (show k < 1501 by omega) (by decide)
    have i10 : vp_in (nI k) (mo_len 10) := vp_in_nI (show k < 1501 by omega) (by decide)
    have io : vp_in (nI o) (mo_len 12) := vp_in_nI (show o < 1600 by omega) (by decide)
    refine ev_aload_n d_Model_zoneOf_8 rfl rfl ?_
    refine mo_get (fa_Model_31 rfl rfl) d_Model_zoneOf_9 rfl ?_
    refine ev_iload_n d_Model_zoneOf_12 rfl rfl ?_
    refine mo_ald hT d_Model_zoneOf_13 (by decide) i8 ?_
    refine ev_iconst (v := 4) d_Model_zoneOf_14 (by decide) ?_
    refine ev_icmp_eq (tgt := 20) d_Model_zoneOf_15 (by decide) (fun c_15 => ?_) (fun c_15 => ?_)
    rotate_left
    · exact no
    · refine ev_aload_n d_Model_zoneOf_20 rfl rfl ?_
      refine mo_get (fa_Model_37 rfl rfl) d_Model_zoneOf_21 rfl ?_
      refine ev_iload_n d_Model_zoneOf_24 rfl rfl ?_
      refine mo_ald hT d_Model_zoneOf_25 (by decide) i10 ?_
      rw [nI_clamp (by omega), r10]
      refine ev_istore_n d_Model_zoneOf_26 rfl (by decide) ?_
      refine ev_aload_n d_Model_zoneOf_27 rfl rfl ?_
      refine ev_iload_n d_Model_zoneOf_28 rfl rfl ?_
      refine mo_Vv [.int (nI k)] [] ca_Model_zoneOf_268 d_Model_zoneOf_29 rfl (Nat.le_of_ble_eq_true rfl) (c_Model_longOf hT hW hl qk) ?_
      refine ev_istore_n d_Model_zoneOf_32 rfl (by decide) ?_
      refine ev_aload_n d_Model_zoneOf_33 rfl rfl ?_
      refine mo_get (fa_Model_43 rfl rfl) d_Model_zoneOf_34 rfl ?_
      refine ev_iload_n d_Model_zoneOf_37 rfl rfl ?_
      refine mo_ald hT d_Model_zoneOf_38 (by decide) io ?_
      have fin : ∀ (y u : Int32), ev_E G m_Model_zoneOf 295 [(0, .ref M), (1, .int (nI k)), (2, .int (nI o)), (3, .int (nI w.2.2.length)), (4, .int y)] [.int u] (mo_ov cI cZ h0 M I R) (pu (mo_ov cI cZ h0 M I R)) := by
        intro y u
        refine ev_istore d_Model_zoneOf_295 (by decide) ?_
        refine ev_sipush (v := 3600) d_Model_zoneOf_297 (by decide) ?_
        refine ev_iload d_Model_zoneOf_300 rfl ?_
        refine ev_imul d_Model_zoneOf_302 ?_
        refine ev_iret d_Model_zoneOf_303 rfl ?_
        exact ⟨_, rfl, ⟨_, rfl⟩, rfl⟩
      have a166 : ∀ y : Int32, ev_E G m_Model_zoneOf 166 [(0, .ref M), (1, .int (nI k)), (2, .int (nI o)), (3, .int (nI w.2.2.length)), (4, .int y)] [] (mo_ov cI cZ h0 M I R) (pu (mo_ov cI cZ h0 M I R)) := by
        intro y
        refine ev_iload_n d_Model_zoneOf_166 rfl rfl ?_
        refine ev_iconst (v := 3) d_Model_zoneOf_167 (by decide) ?_
        refine ev_icmp_eq (tgt := 173) d_Model_zoneOf_168 (by decide) (fun c_168 => ?_) (fun c_168 => ?_)
        · have pair : True := trivial
          refine ev_aload_n d_Model_zoneOf_173 rfl rfl ?_
          refine ev_iload_n d_Model_zoneOf_174 rfl rfl ?_
          refine ev_iconst (v := 0) d_Model_zoneOf_175 (by decide) ?_
          refine ev_ldcw (v := 6644852) (List.mem_cons_of_mem _ tw_1324) d_Model_zoneOf_176 ?_
          refine mo_Vr [.int (nI k), .int 0, .int _] [] ca_Model_zoneOf_279 d_Model_zoneOf_179 rfl (Nat.le_of_ble_eq_true rfl) (c_Model_isThree hT (by omega) r10 (by omega) _) (fun v h1 z => ?_)
          obtain ⟨⟨xa, rfl⟩, rfl⟩ := z
          refine ev_if_eq (tgt := 190) d_Model_zoneOf_182 (by decide) (fun _ => ?_) (fun _ => ?_)
          rotate_left
          · refine ev_bipush (v := (-4)) d_Model_zoneOf_185 (by decide) ?_
            refine ev_goto (tgt := 295) d_Model_zoneOf_187 (by decide) ?_
            exact fin _ _
          have b214 : ev_E G m_Model_zoneOf 214 [(0, .ref M), (1, .int (nI k)), (2, .int (nI o)), (3, .int (nI w.2.2.length)), (4, .int y)] [] (mo_ov cI cZ h0 M I R) (pu (mo_ov cI cZ h0 M I R)) := by
            refine ev_bipush (v := (-5)) d_Model_zoneOf_214 (by decide) ?_
            refine ev_goto (tgt := 295) d_Model_zoneOf_216 (by decide) ?_
            exact fin _ _
          refine ev_aload_n d_Model_zoneOf_190 rfl rfl ?_
          refine ev_iload_n d_Model_zoneOf_191 rfl rfl ?_
          refine ev_iconst (v := 0) d_Model_zoneOf_192 (by decide) ?_
          refine ev_ldcw (v := 6648692) (List.mem_cons_of_mem _ tw_1325) d_Model_zoneOf_193 ?_
          refine mo_Vr [.int (nI k), .int 0, .int _] [] ca_Model_zoneOf_279 d_Model_zoneOf_196 rfl (Nat.le_of_ble_eq_true rfl) (c_Model_isThree hT (by omega) r10 (by omega) _) (fun v h1 z => ?_)
          obtain ⟨⟨xb1, rfl⟩, rfl⟩ := z
          refine ev_if_ne (tgt := 214) d_Model_zoneOf_199 (by decide) (fun _ => ?_) (fun _ => ?_)
          · exact b214
          refine ev_aload_n d_Model_zoneOf_202 rfl rfl ?_
          refine ev_iload_n d_Model_zoneOf_203 rfl rfl ?_
          refine ev_iconst (v := 0) d_Model_zoneOf_204 (by decide) ?_
          refine ev_ldcw (v := 6513780) (List.mem_cons_of_mem _ tw_1326) d_Model_zoneOf_205 ?_
          refine mo_Vr [.int (nI k), .int 0, .int _] [] ca_Model_zoneOf_279 d_Model_zoneOf_208 rfl (Nat.le_of_ble_eq_true rfl) (c_Model_isThree hT (by omega) r10 (by omega) _) (fun v h1 z => ?_)
          obtain ⟨⟨xb2, rfl⟩, rfl⟩ := z
          refine ev_if_eq (tgt := 219) d_Model_zoneOf_211 (by decide) (fun _ => ?_) (fun _ => ?_)
          rotate_left
          · exact b214
          have b243 : ev_E G m_Model_zoneOf 243 [(0, .ref M), (1, .int (nI k)), (2, .int (nI o)), (3, .int (nI w.2.2.length)), (4, .int y)] [] (mo_ov cI cZ h0 M I R) (pu (mo_ov cI cZ h0 M I R)) := by
            refine ev_bipush (v := (-6)) d_Model_zoneOf_243 (by decide) ?_
            refine ev_goto (tgt := 295) d_Model_zoneOf_245 (by decide) ?_
            exact fin _ _
          refine ev_aload_n d_Model_zoneOf_219 rfl rfl ?_
          refine ev_iload_n d_Model_zoneOf_220 rfl rfl ?_
          refine ev_iconst (v := 0) d_Model_zoneOf_221 (by decide) ?_
          refine ev_ldcw (v := 6517620) (List.mem_cons_of_mem _ tw_1327) d_Model_zoneOf_222 ?_
          refine mo_Vr [.int (nI k), .int 0, .int _] [] ca_Model_zoneOf_279 d_Model_zoneOf_225 rfl (Nat.le_of_ble_eq_true rfl) (c_Model_isThree hT (by omega) r10 (by omega) _) (fun v h1 z => ?_)
          obtain ⟨⟨xc1, rfl⟩, rfl⟩ := z
          refine ev_if_ne (tgt := 243) d_Model_zoneOf_228 (by decide) (fun _ => ?_) (fun _ => ?_)
          · exact b243
          refine ev_aload_n d_Model_zoneOf_231 rfl rfl ?_
          refine ev_iload_n d_Model_zoneOf_232 rfl rfl ?_
          refine ev_iconst (v := 0) d_Model_zoneOf_233 (by decide) ?_
          refine ev_ldcw (v := 7169140) (List.mem_cons_of_mem _ tw_1328) d_Model_zoneOf_234 ?_
          refine mo_Vr [.int (nI k), .int 0, .int _] [] ca_Model_zoneOf_279 d_Model_zoneOf_237 rfl (Nat.le_of_ble_eq_true rfl) (c_Model_isThree hT (by omega) r10 (by omega) _) (fun v h1 z => ?_)
          obtain ⟨⟨xc2, rfl⟩, rfl⟩ := z
          refine ev_if_eq (tgt := 248) d_Model_zoneOf_240 (by decide) (fun _ => ?_) (fun _ => ?_)
          rotate_left
          · exact b243
          have b272 : ev_E G m_Model_zoneOf 272 [(0, .ref M), (1, .int (nI k)), (2, .int (nI o)), (3, .int (nI w.2.2.length)), (4, .int y)] [] (mo_ov cI cZ h0 M I R) (pu (mo_ov cI cZ h0 M I R)) := by
            refine ev_bipush (v := (-7)) d_Model_zoneOf_272 (by decide) ?_
            refine ev_goto (tgt := 295) d_Model_zoneOf_274 (by decide) ?_
            exact fin _ _
          refine ev_aload_n d_Model_zoneOf_248 rfl rfl ?_
          refine ev_iload_n d_Model_zoneOf_249 rfl rfl ?_
          refine ev_iconst (v := 0) d_Model_zoneOf_250 (by decide) ?_
          refine ev_ldcw (v := 7172980) (List.mem_cons_of_mem _ tw_1329) d_Model_zoneOf_251 ?_
          refine mo_Vr [.int (nI k), .int 0, .int _] [] ca_Model_zoneOf_279 d_Model_zoneOf_254 rfl (Nat.le_of_ble_eq_true rfl) (c_Model_isThree hT (by omega) r10 (by omega) _) (fun v h1 z => ?_)
          obtain ⟨⟨xd1, rfl⟩, rfl⟩ := z
          refine ev_if_ne (tgt := 272) d_Model_zoneOf_257 (by decide) (fun _ => ?_) (fun _ => ?_)
          · exact b272
          refine ev_aload_n d_Model_zoneOf_260 rfl rfl ?_
          refine ev_iload_n d_Model_zoneOf_261 rfl rfl ?_
          refine ev_iconst (v := 0) d_Model_zoneOf_262 (by decide) ?_
          refine ev_ldcw (v := 7365748) (List.mem_cons_of_mem _ tw_1330) d_Model_zoneOf_263 ?_
          refine mo_Vr [.int (nI k), .int 0, .int _] [] ca_Model_zoneOf_279 d_Model_zoneOf_266 rfl (Nat.le_of_ble_eq_true rfl) (c_Model_isThree hT (by omega) r10 (by omega) _) (fun v h1 z => ?_)
          obtain ⟨⟨xd2, rfl⟩, rfl⟩ := z
          refine ev_if_eq (tgt := 277) d_Model_zoneOf_269 (by decide) (fun _ => ?_) (fun _ => ?_)
          rotate_left
          · exact b272
          refine ev_aload_n d_Model_zoneOf_277 rfl rfl ?_
          refine ev_iload_n d_Model_zoneOf_278 rfl rfl ?_
          refine ev_iconst (v := 0) d_Model_zoneOf_279 (by decide) ?_
          refine ev_ldcw (v := 7369588) (List.mem_cons_of_mem _ tw_1331) d_Model_zoneOf_280 ?_
          refine mo_Vr [.int (nI k), .int 0, .int _] [] ca_Model_zoneOf_279 d_Model_zoneOf_283 rfl (Nat.le_of_ble_eq_true rfl) (c_Model_isThree hT (by omega) r10 (by omega) _) (fun v h1 z => ?_)
          obtain ⟨⟨xe, rfl⟩, rfl⟩ := z
          refine ev_if_eq (tgt := 294) d_Model_zoneOf_286 (by decide) (fun _ => ?_) (fun _ => ?_)
          · refine ev_iconst (v := 0) d_Model_zoneOf_294 (by decide) ?_
            exact fin _ _
          · refine ev_bipush (v := (-8)) d_Model_zoneOf_289 (by decide) ?_
            refine ev_goto (tgt := 295) d_Model_zoneOf_291 (by decide) ?_
            exact fin _ _
        · refine ev_iconst (v := 0) d_Model_zoneOf_171 (by decide) ?_
          refine ev_iret d_Model_zoneOf_172 rfl ?_
          exact ⟨_, rfl, ⟨_, rfl⟩, rfl⟩
      have a72 : ∀ y : Int32, w.2.2.length = 5 → ev_E G m_Model_zoneOf 72 [(0, .ref M), (1, .int (nI k)), (2, .int (nI o)), (3, .int (nI w.2.2.length)), (4, .int y)] [] (mo_ov cI cZ h0 M I R) (pu (mo_ov cI cZ h0 M I R)) := by
        intro y h5
        have loop : ∀ (d i : Nat), i + d = 5 → ev_E G m_Model_zoneOf 75 [(0, .ref M), (1, .int (nI k)), (2, .int (nI o)), (3, .int (nI w.2.2.length)), (4, .int y), (5, .int (nI i))] [] (mo_ov cI cZ h0 M I R) (pu (mo_ov cI cZ h0 M I R)) := by
          intro d
          induction d with
          | zero =>
            intro i hi
            refine ev_iload d_Model_zoneOf_75 rfl ?_
            refine ev_iconst (v := 5) d_Model_zoneOf_77 (by decide) ?_
            refine ev_icmp_ge (tgt := 104) d_Model_zoneOf_78 (by decide) (fun _ => ?_) (fun z => absurd (nI_le (a := 5) (b := i) (by omega) (by omega)) z)
            refine ev_aload_n d_Model_zoneOf_104 rfl rfl ?_
            refine ev_iload_n d_Model_zoneOf_105 rfl rfl ?_
            refine ev_iconst (v := 1) d_Model_zoneOf_106 (by decide) ?_
            refine ev_iadd d_Model_zoneOf_107 ?_
            rw [show nI o + 1 = nI (o + 1) from nI_1 o]
            refine ev_iload_n d_Model_zoneOf_108 rfl rfl ?_
            refine ev_iconst (v := 3) d_Model_zoneOf_109 (by decide) ?_
            refine ev_iadd d_Model_zoneOf_110 ?_
            rw [show nI o + 3 = nI (o + 3) from nI_add o 3]
            refine mo_Vr [.int (nI (o + 1)), .int (nI (o + 3))] [] ca_Model_zoneOf_275 d_Model_zoneOf_111 rfl (Nat.le_of_ble_eq_true rfl) (c_Model_numberOf hT (by omega) (by omega)) (fun v h1 z => ?_)
            obtain ⟨⟨p, rfl⟩, rfl⟩ := z
            refine ev_istore d_Model_zoneOf_114 (by decide) ?_
            refine ev_aload_n d_Model_zoneOf_116 rfl rfl ?_
            refine ev_iload_n d_Model_zoneOf_117 rfl rfl ?_
            refine ev_iconst (v := 3) d_Model_zoneOf_118 (by decide) ?_
            refine ev_iadd d_Model_zoneOf_119 ?_
            rw [show nI o + 3 = nI (o + 3) from nI_add o 3]
            refine ev_iload_n d_Model_zoneOf_120 rfl rfl ?_
            refine ev_iconst (v := 5) d_Model_zoneOf_121 (by decide) ?_
            refine ev_iadd d_Model_zoneOf_122 ?_
            rw [show nI o + 5 = nI (o + 5) from nI_add o 5]
            refine mo_Vr [.int (nI (o + 3)), .int (nI (o + 5))] [] ca_Model_zoneOf_275 d_Model_zoneOf_123 rfl (Nat.le_of_ble_eq_true rfl) (c_Model_numberOf hT (by omega) (by omega)) (fun v h1 z => ?_)
            obtain ⟨⟨p2, rfl⟩, rfl⟩ := z
            refine ev_istore d_Model_zoneOf_126 (by decide) ?_
            refine ev_iload d_Model_zoneOf_128 rfl ?_
            refine ev_bipush (v := 23) d_Model_zoneOf_130 (by decide) ?_
            refine ev_icmp_gt (tgt := 142) d_Model_zoneOf_132 (by decide) (fun c_132 => ?_) (fun c_132 => ?_)
            · refine ev_iconst (v := 0) d_Model_zoneOf_142 (by decide) ?_
              refine ev_iret d_Model_zoneOf_143 rfl ?_
              exact ⟨_, rfl, ⟨_, rfl⟩, rfl⟩
            · refine ev_iload d_Model_zoneOf_135 rfl ?_
              refine ev_bipush (v := 59) d_Model_zoneOf_137 (by decide) ?_
              refine ev_icmp_le (tgt := 144) d_Model_zoneOf_139 (by decide) (fun c_139 => ?_) (fun c_139 => ?_)
              · refine ev_iload d_Model_zoneOf_144 rfl ?_
                refine ev_if_eq (tgt := 154) d_Model_zoneOf_146 (by decide) (fun c_146 => ?_) (fun c_146 => ?_)
                · refine ev_bipush (v := (-60)) d_Model_zoneOf_154 (by decide) ?_
                  refine ev_bipush (v := 60) d_Model_zoneOf_156 (by decide) ?_
                  refine ev_iload d_Model_zoneOf_158 rfl ?_
                  refine ev_imul d_Model_zoneOf_160 ?_
                  refine ev_iload d_Model_zoneOf_161 rfl ?_
                  refine ev_iadd d_Model_zoneOf_163 ?_
                  refine ev_imul d_Model_zoneOf_164 ?_
                  refine ev_iret d_Model_zoneOf_165 rfl ?_
                  exact ⟨_, rfl, ⟨_, rfl⟩, rfl⟩
                · refine ev_bipush (v := 60) d_Model_zoneOf_149 (by decide) ?_
                  refine ev_goto (tgt := 156) d_Model_zoneOf_151 (by decide) ?_
                  refine ev_bipush (v := 60) d_Model_zoneOf_156 (by decide) ?_
                  refine ev_iload d_Model_zoneOf_158 rfl ?_
                  refine ev_imul d_Model_zoneOf_160 ?_
                  refine ev_iload d_Model_zoneOf_161 rfl ?_
                  refine ev_iadd d_Model_zoneOf_163 ?_
                  refine ev_imul d_Model_zoneOf_164 ?_
                  refine ev_iret d_Model_zoneOf_165 rfl ?_
                  exact ⟨_, rfl, ⟨_, rfl⟩, rfl⟩
              · refine ev_iconst (v := 0) d_Model_zoneOf_142 (by decide) ?_
                refine ev_iret d_Model_zoneOf_143 rfl ?_
                exact ⟨_, rfl, ⟨_, rfl⟩, rfl⟩
          | succ d ih =>
            intro i hi
            have ii : vp_in (nI (o + i)) (mo_len 12) := vp_in_nI (show o + i < 1600 by omega) (by decide)
            refine ev_iload d_Model_zoneOf_75 rfl ?_
            refine ev_iconst (v := 5) d_Model_zoneOf_77 (by decide) ?_
            refine ev_icmp_ge (tgt := 104) d_Model_zoneOf_78 (by decide) (fun z => absurd z (nI_ge (a := i) (b := 5) (by omega) (by omega))) (fun _ => ?_)
            refine ev_aload_n d_Model_zoneOf_81 rfl rfl ?_
            refine mo_get (fa_Model_43 rfl rfl) d_Model_zoneOf_82 rfl ?_
            refine ev_iload_n d_Model_zoneOf_85 rfl rfl ?_
            refine ev_iload d_Model_zoneOf_86 rfl ?_
            refine ev_iadd d_Model_zoneOf_88 ?_
            rw [nI_add]
            refine mo_ald hT d_Model_zoneOf_89 (by decide) ii ?_
            refine ev_Sv [.int _] [] ca_Model_zoneOf_271 d_Model_zoneOf_90 rfl (Nat.le_of_ble_eq_true rfl) (c_Model_isDigit _) ?_
            refine ev_if_ne (tgt := 98) d_Model_zoneOf_93 (by decide) (fun c_93 => ?_) (fun c_93 => ?_)
            · refine ev_iinc d_Model_zoneOf_98 rfl (by decide) ?_
              refine ev_goto (tgt := 75) d_Model_zoneOf_101 (by decide) ?_
              rw [show nI i + Int32.ofInt 1 = nI (i + 1) from nI_1 i]
              exact ih (i + 1) (by omega)
            · refine ev_iconst (v := 0) d_Model_zoneOf_96 (by decide) ?_
              refine ev_iret d_Model_zoneOf_97 rfl ?_
              exact ⟨_, rfl, ⟨_, rfl⟩, rfl⟩
        refine ev_iconst (v := 1) d_Model_zoneOf_72 (by decide) ?_
        refine ev_istore d_Model_zoneOf_73 (by decide) ?_
        exact loop 4 1 rfl
      have a49 : ∀ y : Int32, ev_E G m_Model_zoneOf 49 [(0, .ref M), (1, .int (nI k)), (2, .int (nI o)), (3, .int (nI w.2.2.length))] [.int y] (mo_ov cI cZ h0 M I R) (pu (mo_ov cI cZ h0 M I R)) := by
        intro y
        refine ev_istore d_Model_zoneOf_49 (by decide) ?_
        refine ev_iload_n d_Model_zoneOf_51 rfl rfl ?_
        refine ev_iconst (v := 5) d_Model_zoneOf_52 (by decide) ?_
        refine ev_icmp_ne (tgt := 166) d_Model_zoneOf_53 (by decide) (fun c_53 => ?_) (fun c_53 => ?_)
        · exact a166 _
        · have h5 : w.2.2.length = 5 := by
            have c : nI w.2.2.length = nI 5 := by
              by_cases q : nI w.2.2.length = nI 5
              · exact q
              · first | exact absurd q c_53 | exact c_53
            exact (nI_eq (by omega) (by omega)).mp c
          refine ev_iload d_Model_zoneOf_56 rfl ?_
          refine ev_if_ne (tgt := 72) d_Model_zoneOf_58 (by decide) (fun c_58 => ?_) (fun c_58 => ?_)
          · exact a72 _ h5
          · refine ev_aload_n d_Model_zoneOf_61 rfl rfl ?_
            refine mo_get (fa_Model_43 rfl rfl) d_Model_zoneOf_62 rfl ?_
            refine ev_iload_n d_Model_zoneOf_65 rfl rfl ?_
            refine mo_ald hT d_Model_zoneOf_66 (by decide) io ?_
            refine ev_bipush (v := 45) d_Model_zoneOf_67 (by decide) ?_
            refine ev_icmp_ne (tgt := 166) d_Model_zoneOf_69 (by decide) (fun c_69 => ?_) (fun c_69 => ?_)
            · exact a166 _
            · exact a72 _ h5
      refine ev_bipush (v := 43) d_Model_zoneOf_39 (by decide) ?_
      refine ev_icmp_ne (tgt := 48) d_Model_zoneOf_41 (by decide) (fun c_41 => ?_) (fun c_41 => ?_)
      · refine ev_iconst (v := 0) d_Model_zoneOf_48 (by decide) ?_
        exact a49 _
      · refine ev_iconst (v := 1) d_Model_zoneOf_44 (by decide) ?_
        refine ev_goto (tgt := 49) d_Model_zoneOf_45 (by decide) ?_
        exact a49 _
end DATE2
