section ADR2
variable {G : gl_G} {cI cZ : ClassId} {h0 : hp_T} {M : Nat} {I : Nat → Int32} {R : Nat → Nat → Int32} {W : Wds}
theorem lt_of_nge {a b : Nat} (ha : a < 2 ^ 31) (h : ¬ nI b ≤ nI a) : a < b := by
  rcases Nat.lt_or_ge a b with q | q
  · exact q
  · exact absurd (nI_le q ha) h
theorem l_Model_isName (hT : (gl_t G)[0]? = some (cI, .int)) (hW : wOk W I R) (hl : W.length ≤ 1501) {b : Nat} (hbW : b ≤ W.length) {x : Int32} : ∀ (n k : Nat) (s : Int32), b ≤ k + n → k ≤ b → ev_E G m_Model_isName 10 [(0, .ref M), (1, .int x), (2, .int (nI b)), (3, .int s), (4, .int (nI k))] [] (mo_ov cI cZ h0 M I R) (pu (mo_ov cI cZ h0 M I R)) := by
  have fin : ∀ (s k : Int32), ev_E G m_Model_isName 68 [(0, .ref M), (1, .int x), (2, .int (nI b)), (3, .int s), (4, .int k)] [] (mo_ov cI cZ h0 M I R) (pu (mo_ov cI cZ h0 M I R)) := by
    intro s k
    refine ev_iload_n d_Model_isName_68 rfl rfl ?_
    refine ev_if_le (tgt := 76) d_Model_isName_69 (by decide) (fun c_69 => ?_) (fun c_69 => ?_)
    · refine ev_iconst (v := 0) d_Model_isName_76 (by decide) ?_
      refine ev_zret d_Model_isName_77 rfl rfl ?_
      exact ⟨_, rfl, ⟨_, rfl⟩, rfl⟩
    · refine ev_iconst (v := 1) d_Model_isName_72 (by decide) ?_
      refine ev_goto (tgt := 77) d_Model_isName_73 (by decide) ?_
      refine ev_zret d_Model_isName_77 rfl rfl ?_
      exact ⟨_, rfl, ⟨_, rfl⟩, rfl⟩
  intro n
  induction n with
  | zero =>
    intro k s hk hkb
    refine ev_iload d_Model_isName_10 rfl ?_
    refine ev_iload_n d_Model_isName_12 rfl rfl ?_
    refine ev_icmp_ge (tgt := 68) d_Model_isName_13 (by decide) (fun _ => ?_) (fun z => absurd (nI_le (by omega) (by omega)) z)
    exact fin _ _
  | succ n ih =>
    intro k s hk hkb
    refine ev_iload d_Model_isName_10 rfl ?_
    refine ev_iload_n d_Model_isName_12 rfl rfl ?_
    refine ev_icmp_ge (tgt := 68) d_Model_isName_13 (by decide) (fun c_13 => ?_) (fun c_13 => ?_)
    · exact fin _ _
    · have hlt := lt_of_nge (by omega) c_13
      have qk : W[k]? = some W[k] := List.getElem?_eq_getElem (by omega)
      generalize W[k] = w at qk
      have i8 : vp_in (nI k) (mo_len 8) := vp_in_nI (show k < 1501 by omega) (by decide)
      have hnx := nx_le W (a := k + 1) (b := b) (by omega) hbW
      have hng := nx_ge W (k + 1) b
      have on : ev_E G m_Model_isName 51 [(0, .ref M), (1, .int x), (2, .int (nI b)), (3, .int s), (4, .int (nI k))] [] (mo_ov cI cZ h0 M I R) (pu (mo_ov cI cZ h0 M I R)) := by
        refine ev_iinc d_Model_isName_51 rfl (by decide) ?_
        refine ev_aload_n d_Model_isName_54 rfl rfl ?_
        refine ev_iload d_Model_isName_55 rfl ?_
        refine ev_iconst (v := 1) d_Model_isName_57 (by decide) ?_
        refine ev_iadd d_Model_isName_58 ?_
        rw [nI_1]
        refine ev_iload_n d_Model_isName_59 rfl rfl ?_
        refine mo_Vv [.int (nI (k + 1)), .int (nI b)] [] ca_Model_isName_197 d_Model_isName_60 rfl (Nat.le_of_ble_eq_true rfl) (c_Model_next hT hW hl hbW (by omega)) ?_
        refine ev_istore d_Model_isName_63 (by decide) ?_
        refine ev_goto (tgt := 10) d_Model_isName_65 (by decide) ?_
        exact ih (nx W (k + 1) b) _ (by omega) hnx
      refine ev_aload_n d_Model_isName_16 rfl rfl ?_
      refine mo_get (fa_Model_31 rfl rfl) d_Model_isName_17 rfl ?_
      refine ev_iload d_Model_isName_20 rfl ?_
      refine mo_ald hT d_Model_isName_22 (by decide) i8 ?_
      refine ev_iconst (v := 4) d_Model_isName_23 (by decide) ?_
      refine ev_icmp_eq (tgt := 51) d_Model_isName_24 (by decide) (fun c_24 => ?_) (fun c_24 => ?_)
      · exact on
      · refine ev_aload_n d_Model_isName_27 rfl rfl ?_
        refine mo_get (fa_Model_31 rfl rfl) d_Model_isName_28 rfl ?_
        refine ev_iload d_Model_isName_31 rfl ?_
        refine mo_ald hT d_Model_isName_33 (by decide) i8 ?_
        refine ev_iconst (v := 1) d_Model_isName_34 (by decide) ?_
        refine ev_icmp_eq (tgt := 51) d_Model_isName_35 (by decide) (fun c_35 => ?_) (fun c_35 => ?_)
        · exact on
        · refine ev_aload_n d_Model_isName_38 rfl rfl ?_
          refine ev_iload d_Model_isName_39 rfl ?_
          refine ev_bipush (v := 46) d_Model_isName_41 (by decide) ?_
          refine mo_Vv [.int (nI k), .int 46] [] ca_Model_isName_200 d_Model_isName_43 rfl (Nat.le_of_ble_eq_true rfl) (c_Model_is hT hW hl qk 46) ?_
          refine ev_if_ne (tgt := 51) d_Model_isName_46 (by decide) (fun c_46 => ?_) (fun c_46 => ?_)
          · exact on
          · refine ev_iconst (v := 0) d_Model_isName_49 (by decide) ?_
            refine ev_zret d_Model_isName_50 rfl rfl ?_
            exact ⟨_, rfl, ⟨_, rfl⟩, rfl⟩
theorem c_Model_isName (hT : (gl_t G)[0]? = some (cI, .int)) (hW : wOk W I R) (hl : W.length ≤ 1501) {a b : Nat} (hab : a ≤ b) (hbW : b ≤ W.length) : ct_E G m_Model_isName [.ref M, .int (nI a), .int (nI b)] (mo_ov cI cZ h0 M I R) (pu (mo_ov cI cZ h0 M I R)) := by
  have hnx := nx_le W hab hbW
  refine ct_of (ws' := tb_all) rfl rfl (Nat.le_of_ble_eq_true rfl) ?_
  refine ev_iconst (v := 0) d_Model_isName_0 (by decide) ?_
  refine ev_istore_n d_Model_isName_1 rfl (by decide) ?_
  refine ev_aload_n d_Model_isName_2 rfl rfl ?_
  refine ev_iload_n d_Model_isName_3 rfl rfl ?_
  refine ev_iload_n d_Model_isName_4 rfl rfl ?_
  refine mo_Vv [.int (nI a), .int (nI b)] [] ca_Model_isName_197 d_Model_isName_5 rfl (Nat.le_of_ble_eq_true rfl) (c_Model_next hT hW hl hbW (by omega)) ?_
  refine ev_istore d_Model_isName_8 (by decide) ?_
  exact l_Model_isName hT hW hl hbW (b - nx W a b) (nx W a b) _ (by omega) hnx
theorem c_Model_isRowWord (hT : (gl_t G)[0]? = some (cI, .int)) {k b : Nat} (hk : k ≤ 5000) (hb : b ≤ 1501) (q : Int32) : ct_E G m_Model_isRowWord [.ref M, .int (nI k), .int (nI b), .int q] (mo_ov cI cZ h0 M I R) (cr (fun v h' => (∃ z : Int32, v = .int z ∧ (¬ z = 0 → k < b)) ∧ h' = mo_ov cI cZ h0 M I R)) := by
  refine ct_of (ws' := tb_all) rfl rfl (Nat.le_of_ble_eq_true rfl) ?_
  have no : ev_E G m_Model_isRowWord 33 [(0, .ref M), (1, .int (nI k)), (2, .int (nI b)), (3, .int q)] [] (mo_ov cI cZ h0 M I R) (cr (fun v h' => (∃ z : Int32, v = .int z ∧ (¬ z = 0 → k < b)) ∧ h' = mo_ov cI cZ h0 M I R)) := by
    refine ev_iconst (v := 0) d_Model_isRowWord_33 (by decide) ?_
    refine ev_zret d_Model_isRowWord_34 rfl rfl ?_
    exact ⟨_, rfl, ⟨_, rfl, fun z => absurd rfl z⟩, rfl⟩
  refine ev_iload_n d_Model_isRowWord_0 rfl rfl ?_
  refine ev_iload_n d_Model_isRowWord_1 rfl rfl ?_
  refine ev_icmp_ge (tgt := 33) d_Model_isRowWord_2 (by decide) (fun c_2 => ?_) (fun c_2 => ?_)
  · exact no
  · have hlt := lt_of_nge (by omega) c_2
    have i8 : vp_in (nI k) (mo_len 8) := vp_in_nI (show k < 1501 by omega) (by decide)
    have yes : ev_E G m_Model_isRowWord 29 [(0, .ref M), (1, .int (nI k)), (2, .int (nI b)), (3, .int q)] [] (mo_ov cI cZ h0 M I R) (cr (fun v h' => (∃ z : Int32, v = .int z ∧ (¬ z = 0 → k < b)) ∧ h' = mo_ov cI cZ h0 M I R)) := by
      refine ev_iconst (v := 1) d_Model_isRowWord_29 (by decide) ?_
      refine ev_goto (tgt := 34) d_Model_isRowWord_30 (by decide) ?_
      refine ev_zret d_Model_isRowWord_34 rfl rfl ?_
      exact ⟨_, rfl, ⟨_, rfl, fun _ => hlt⟩, rfl⟩
    refine ev_aload_n d_Model_isRowWord_5 rfl rfl ?_
    refine mo_get (fa_Model_31 rfl rfl) d_Model_isRowWord_6 rfl ?_
    refine ev_iload_n d_Model_isRowWord_9 rfl rfl ?_
    refine mo_ald hT d_Model_isRowWord_10 (by decide) i8 ?_
    refine ev_iconst (v := 4) d_Model_isRowWord_11 (by decide) ?_
    refine ev_icmp_eq (tgt := 29) d_Model_isRowWord_12 (by decide) (fun c_12 => ?_) (fun c_12 => ?_)
    · exact yes
    · refine ev_iload_n d_Model_isRowWord_15 rfl rfl ?_
      refine ev_if_eq (tgt := 33) d_Model_isRowWord_16 (by decide) (fun c_16 => ?_) (fun c_16 => ?_)
      · exact no
      · refine ev_aload_n d_Model_isRowWord_19 rfl rfl ?_
        refine mo_get (fa_Model_31 rfl rfl) d_Model_isRowWord_20 rfl ?_
        refine ev_iload_n d_Model_isRowWord_23 rfl rfl ?_
        refine mo_ald hT d_Model_isRowWord_24 (by decide) i8 ?_
        refine ev_iconst (v := 1) d_Model_isRowWord_25 (by decide) ?_
        refine ev_icmp_ne (tgt := 33) d_Model_isRowWord_26 (by decide) (fun c_26 => ?_) (fun c_26 => ?_)
        · exact no
        · exact yes
/-- answers a place from a up to b -/
abbrev pn (a b : Nat) (h : hp_T) : Option Value → hp_T → Prop := cr (fun v h' => (∃ e : Nat, v = .int (nI e) ∧ a ≤ e ∧ e ≤ b) ∧ h' = h)
theorem l_Model_rowEnd (hT : (gl_t G)[0]? = some (cI, .int)) (hW : wOk W I R) (hl : W.length ≤ 1501) {a b : Nat} (hbW : b ≤ W.length) {q x1 : Int32} : ∀ (n k : Nat), b ≤ k + n → a ≤ k → k ≤ b → ev_E G m_Model_rowEnd 27 [(0, .ref M), (1, .int x1), (2, .int (nI b)), (3, .int q), (4, .int (nI k)), (5, .int 1)] [] (mo_ov cI cZ h0 M I R) (pn a b (mo_ov cI cZ h0 M I R)) := by
  intro n
  have all : ∀ (n : Nat), (∀ m, m < n → ∀ k, b ≤ k + m → a ≤ k → k ≤ b → ev_E G m_Model_rowEnd 27 [(0, .ref M), (1, .int x1), (2, .int (nI b)), (3, .int q), (4, .int (nI k)), (5, .int 1)] [] (mo_ov cI cZ h0 M I R) (pn a b (mo_ov cI cZ h0 M I R))) → ∀ k, b ≤ k + n → a ≤ k → k ≤ b → ev_E G m_Model_rowEnd 27 [(0, .ref M), (1, .int x1), (2, .int (nI b)), (3, .int q), (4, .int (nI k)), (5, .int 1)] [] (mo_ov cI cZ h0 M I R) (pn a b (mo_ov cI cZ h0 M I R)) := by
    intro n ih k hk hak hkb
    have hnx := nx_le W (a := k) (b := b) hkb hbW
    have hng := nx_ge W k b
    refine ev_iload d_Model_rowEnd_27 rfl ?_
    refine ev_if_eq (tgt := 122) d_Model_rowEnd_29 (by decide) (fun z => absurd z (by decide)) (fun _ => ?_)
    refine ev_aload_n d_Model_rowEnd_32 rfl rfl ?_
    refine ev_iload d_Model_rowEnd_33 rfl ?_
    refine ev_iload_n d_Model_rowEnd_35 rfl rfl ?_
    refine mo_Vv [.int (nI k), .int (nI b)] [] ca_Model_rowEnd_197 d_Model_rowEnd_36 rfl (Nat.le_of_ble_eq_true rfl) (c_Model_next hT hW hl hbW (by omega)) ?_
    generalize nx W k b = dt at hnx hng ⊢
    -- more is 0: out
    have out : ∀ (x5 x7 : Int32), ev_E G m_Model_rowEnd 105 [(0, .ref M), (1, .int x1), (2, .int (nI b)), (3, .int q), (4, .int (nI k)), (5, .int x5), (6, .int (nI dt)), (7, .int x7)] [] (mo_ov cI cZ h0 M I R) (pn a b (mo_ov cI cZ h0 M I R)) := by
      intro x5 x7
      refine ev_iconst (v := 0) d_Model_rowEnd_105 (by decide) ?_
      refine ev_istore d_Model_rowEnd_106 (by decide) ?_
      refine ev_iload d_Model_rowEnd_108 rfl ?_
      refine ev_if_eq (tgt := 119) d_Model_rowEnd_110 (by decide) (fun _ => ?_) (fun z => absurd rfl z)
      refine ev_goto (tgt := 27) d_Model_rowEnd_119 (by decide) ?_
      refine ev_iload d_Model_rowEnd_27 rfl ?_
      refine ev_if_eq (tgt := 122) d_Model_rowEnd_29 (by decide) (fun _ => ?_) (fun z => absurd rfl z)
      refine ev_iload d_Model_rowEnd_122 rfl ?_
      refine ev_iret d_Model_rowEnd_124 rfl ?_
      exact ⟨_, rfl, ⟨k, rfl, hak, hkb⟩, rfl⟩
    -- at 71 with w on the stack
    have a71 : ∀ wn : Nat, dt + 1 ≤ wn ∨ wn = b → wn ≤ b → ev_E G m_Model_rowEnd 71 [(0, .ref M), (1, .int x1), (2, .int (nI b)), (3, .int q), (4, .int (nI k)), (5, .int 1), (6, .int (nI dt))] [.int (nI wn)] (mo_ov cI cZ h0 M I R) (pn a b (mo_ov cI cZ h0 M I R)) := by
      intro wn hw1 hw2
      refine ev_istore d_Model_rowEnd_71 (by decide) ?_
      refine ev_iload d_Model_rowEnd_73 rfl ?_
      refine ev_iload_n d_Model_rowEnd_75 rfl rfl ?_
      refine ev_icmp_ge (tgt := 105) d_Model_rowEnd_76 (by decide) (fun c_76 => ?_) (fun c_76 => ?_)
      · exact out _ _
      · have hdb := lt_of_nge (by omega) c_76
        have qk : W[dt]? = some W[dt] := List.getElem?_eq_getElem (by omega)
        generalize W[dt] = wd at qk
        refine ev_aload_n d_Model_rowEnd_79 rfl rfl ?_
        refine ev_iload d_Model_rowEnd_80 rfl ?_
        refine ev_bipush (v := 46) d_Model_rowEnd_82 (by decide) ?_
        refine mo_Vv [.int (nI dt), .int 46] [] ca_Model_rowEnd_200 d_Model_rowEnd_84 rfl (Nat.le_of_ble_eq_true rfl) (c_Model_is hT hW hl qk 46) ?_
        refine ev_if_eq (tgt := 105) d_Model_rowEnd_87 (by decide) (fun c_87 => ?_) (fun c_87 => ?_)
        · exact out _ _
        · refine ev_aload_n d_Model_rowEnd_90 rfl rfl ?_
          refine ev_iload d_Model_rowEnd_91 rfl ?_
          refine ev_iload_n d_Model_rowEnd_93 rfl rfl ?_
          refine ev_iload_n d_Model_rowEnd_94 rfl rfl ?_
          refine mo_Vr [.int (nI wn), .int (nI b), .int q] [] ca_Model_rowEnd_213 d_Model_rowEnd_95 rfl (Nat.le_of_ble_eq_true rfl) (c_Model_isRowWord hT (by omega) (by omega) q) (fun v h1 z => ?_)
          obtain ⟨⟨z, rfl, hz⟩, rfl⟩ := z
          refine ev_if_eq (tgt := 105) d_Model_rowEnd_98 (by decide) (fun c_98 => ?_) (fun c_98 => ?_)
          · exact out _ _
          · have hwb := hz c_98
            refine ev_iconst (v := 1) d_Model_rowEnd_101 (by decide) ?_
            refine ev_goto (tgt := 106) d_Model_rowEnd_102 (by decide) ?_
            refine ev_istore d_Model_rowEnd_106 (by decide) ?_
            refine ev_iload d_Model_rowEnd_108 rfl ?_
            refine ev_if_eq (tgt := 119) d_Model_rowEnd_110 (by decide) (fun z => absurd z (by decide)) (fun _ => ?_)
            refine ev_iload d_Model_rowEnd_113 rfl ?_
            refine ev_iconst (v := 1) d_Model_rowEnd_115 (by decide) ?_
            refine ev_iadd d_Model_rowEnd_116 ?_
            rw [nI_1]
            refine ev_istore d_Model_rowEnd_117 (by decide) ?_
            refine ev_goto (tgt := 27) d_Model_rowEnd_119 (by decide) ?_
            refine ev_as [(0, .ref M), (1, .int x1), (2, .int (nI b)), (3, .int q), (4, .int (nI (wn + 1))), (5, .int 1)] ⟨rfl, rfl, rfl, rfl, rfl, rfl, trivial⟩ ?_
            exact ih (b - (wn + 1)) (by omega) (wn + 1) (by omega) (by omega) (by omega)
    refine ev_istore d_Model_rowEnd_39 (by decide) ?_
    refine ev_iload d_Model_rowEnd_41 rfl ?_
    refine ev_iload_n d_Model_rowEnd_43 rfl rfl ?_
    refine ev_icmp_ge (tgt := 70) d_Model_rowEnd_44 (by decide) (fun c_44 => ?_) (fun c_44 => ?_)
    · refine ev_iload_n d_Model_rowEnd_70 rfl rfl ?_
      exact a71 b (Or.inr rfl) (Nat.le_refl _)
    · have hdb := lt_of_nge (by omega) c_44
      have qk : W[dt]? = some W[dt] := List.getElem?_eq_getElem (by omega)
      generalize W[dt] = wd at qk
      refine ev_aload_n d_Model_rowEnd_47 rfl rfl ?_
      refine ev_iload d_Model_rowEnd_48 rfl ?_
      refine ev_bipush (v := 46) d_Model_rowEnd_50 (by decide) ?_
      refine mo_Vv [.int (nI dt), .int 46] [] ca_Model_rowEnd_200 d_Model_rowEnd_52 rfl (Nat.le_of_ble_eq_true rfl) (c_Model_is hT hW hl qk 46) ?_
      refine ev_if_eq (tgt := 70) d_Model_rowEnd_55 (by decide) (fun c_55 => ?_) (fun c_55 => ?_)
      · refine ev_iload_n d_Model_rowEnd_70 rfl rfl ?_
        exact a71 b (Or.inr rfl) (Nat.le_refl _)
      · refine ev_aload_n d_Model_rowEnd_58 rfl rfl ?_
        refine ev_iload d_Model_rowEnd_59 rfl ?_
        refine ev_iconst (v := 1) d_Model_rowEnd_61 (by decide) ?_
        refine ev_iadd d_Model_rowEnd_62 ?_
        rw [nI_1]
        refine ev_iload_n d_Model_rowEnd_63 rfl rfl ?_
        refine mo_Vv [.int (nI (dt + 1)), .int (nI b)] [] ca_Model_rowEnd_197 d_Model_rowEnd_64 rfl (Nat.le_of_ble_eq_true rfl) (c_Model_next hT hW hl hbW (by omega)) ?_
        have hn2 := nx_le W (a := dt + 1) (b := b) (by omega) hbW
        have hn3 := nx_ge W (dt + 1) b
        refine ev_goto (tgt := 71) d_Model_rowEnd_67 (by decide) ?_
        exact a71 _ (Or.inl hn3) hn2
  induction n using Nat.strongRecOn with
  | ind n ih => exact all n ih
theorem c_Model_rowEnd (hT : (gl_t G)[0]? = some (cI, .int)) (hW : wOk W I R) (hl : W.length ≤ 1501) {a b : Nat} (hab : a ≤ b) (hbW : b ≤ W.length) (q : Int32) : ct_E G m_Model_rowEnd [.ref M, .int (nI a), .int (nI b), .int q] (mo_ov cI cZ h0 M I R) (pn a b (mo_ov cI cZ h0 M I R)) := by
  have hnx := nx_le W hab hbW
  have hng := nx_ge W a b
  refine ct_of (ws' := tb_all) rfl rfl (Nat.le_of_ble_eq_true rfl) ?_
  refine ev_aload_n d_Model_rowEnd_0 rfl rfl ?_
  refine ev_iload_n d_Model_rowEnd_1 rfl rfl ?_
  refine ev_iload_n d_Model_rowEnd_2 rfl rfl ?_
  refine mo_Vv [.int (nI a), .int (nI b)] [] ca_Model_rowEnd_197 d_Model_rowEnd_3 rfl (Nat.le_of_ble_eq_true rfl) (c_Model_next hT hW hl hbW (by omega)) ?_
  generalize nx W a b = k at hnx hng ⊢
  refine ev_istore d_Model_rowEnd_6 (by decide) ?_
  refine ev_aload_n d_Model_rowEnd_8 rfl rfl ?_
  refine ev_iload d_Model_rowEnd_9 rfl ?_
  refine ev_iload_n d_Model_rowEnd_11 rfl rfl ?_
  refine ev_iload_n d_Model_rowEnd_12 rfl rfl ?_
  refine mo_Vr [.int (nI k), .int (nI b), .int q] [] ca_Model_rowEnd_213 d_Model_rowEnd_13 rfl (Nat.le_of_ble_eq_true rfl) (c_Model_isRowWord hT (by omega) (by omega) q) (fun v h1 z => ?_)
  obtain ⟨⟨z, rfl, hz⟩, rfl⟩ := z
  refine ev_if_ne (tgt := 21) d_Model_rowEnd_16 (by decide) (fun c_16 => ?_) (fun c_16 => ?_)
  · have hkb := hz c_16
    refine ev_iinc d_Model_rowEnd_21 rfl (by decide) ?_
    refine ev_iconst (v := 1) d_Model_rowEnd_24 (by decide) ?_
    refine ev_istore d_Model_rowEnd_25 (by decide) ?_
    rw [show nI k + Int32.ofInt 1 = nI (k + 1) from nI_1 k]
    exact l_Model_rowEnd hT hW hl hbW (b - (k + 1)) (k + 1) (by omega) (by omega) (by omega)
  · refine ev_iload_n d_Model_rowEnd_19 rfl rfl ?_
    refine ev_iret d_Model_rowEnd_20 rfl ?_
    exact ⟨_, rfl, ⟨a, rfl, Nat.le_refl _, hab⟩, rfl⟩
/-- isSpec: where it says yes, what it notes lies in order -/
theorem c_Model_isSpec (hT : (gl_t G)[0]? = some (cI, .int)) (hW : wOk W I R) (hl : W.length ≤ 1501) {a b : Nat} (hab : a ≤ b) (hbW : b ≤ W.length) : ct_E G m_Model_isSpec [.ref M, .int (nI a), .int (nI b)] (mo_ov cI cZ h0 M I R) (cr (fun v h' => ∃ (z : Int32) (e d : Nat), v = .int z ∧ h' = mo_ov cI cZ h0 M (upd (upd I 42 (nI e)) 43 (nI d)) R ∧ a ≤ e ∧ e ≤ d ∧ d ≤ b)) := by
  refine ct_of (ws' := tb_all) rfl rfl (Nat.le_of_ble_eq_true rfl) ?_
  refine ev_aload_n d_Model_isSpec_0 rfl rfl ?_
  refine ev_aload_n d_Model_isSpec_1 rfl rfl ?_
  refine ev_iload_n d_Model_isSpec_2 rfl rfl ?_
  refine ev_iload_n d_Model_isSpec_3 rfl rfl ?_
  refine ev_iconst (v := 1) d_Model_isSpec_4 (by decide) ?_
  refine mo_Vr [.int (nI a), .int (nI b), .int 1] [.ref M] ca_Model_isSpec_217 d_Model_isSpec_5 rfl (Nat.le_of_ble_eq_true rfl) (c_Model_rowEnd hT hW hl hab hbW 1) (fun v h1 z => ?_)
  obtain ⟨⟨e, rfl, he1, he2⟩, rfl⟩ := z
  refine mo_put (fp_Model_221 rfl rfl) d_Model_isSpec_8 (Nat.le_of_ble_eq_true rfl) rfl rfl rfl ?_
  refine ev_aload_n d_Model_isSpec_11 rfl rfl ?_
  refine ev_iload_n d_Model_isSpec_12 rfl rfl ?_
  refine mo_put (fp_Model_224 rfl rfl) d_Model_isSpec_13 (Nat.le_of_ble_eq_true rfl) rfl rfl rfl ?_
  have hW1 : wOk W (upd (upd I 42 (nI e)) 43 (nI b)) R := wOk_I hW rfl rfl
  have h42 : (upd (upd I 42 (nI e)) 43 (nI b)) 42 = nI e := rfl
  refine ev_aload_n d_Model_isSpec_16 rfl rfl ?_
  refine mo_get (fa_Model_221 rfl rfl) d_Model_isSpec_17 rfl ?_
  rw [h42]
  refine ev_iload_n d_Model_isSpec_20 rfl rfl ?_
  refine ev_icmp_ne (tgt := 26) d_Model_isSpec_21 (by decide) (fun c_21 => ?_) (fun c_21 => ?_)
  rotate_left
  · refine ev_iconst (v := 0) d_Model_isSpec_24 (by decide) ?_
    refine ev_zret d_Model_isSpec_25 rfl rfl ?_
    exact ⟨_, rfl, _, e, b, rfl, rfl, he1, he2, Nat.le_refl _⟩
  · refine ev_aload_n d_Model_isSpec_26 rfl rfl ?_
    refine ev_aload_n d_Model_isSpec_27 rfl rfl ?_
    refine mo_get (fa_Model_221 rfl rfl) d_Model_isSpec_28 rfl ?_
    rw [h42]
    refine ev_iload_n d_Model_isSpec_31 rfl rfl ?_
    refine mo_Vv [.int (nI e), .int (nI b)] [] ca_Model_isSpec_197 d_Model_isSpec_32 rfl (Nat.le_of_ble_eq_true rfl) (c_Model_next hT hW1 hl hbW (by omega)) ?_
    have hnx := nx_le W (a := e) (b := b) he2 hbW
    have hng := nx_ge W e b
    generalize nx W e b = k at hnx hng ⊢
    refine ev_istore_n d_Model_isSpec_35 rfl (by decide) ?_
    refine ev_iload_n d_Model_isSpec_36 rfl rfl ?_
    refine ev_iload_n d_Model_isSpec_37 rfl rfl ?_
    refine ev_icmp_ne (tgt := 43) d_Model_isSpec_38 (by decide) (fun c_38 => ?_) (fun c_38 => ?_)
    rotate_left
    · refine ev_iconst (v := 1) d_Model_isSpec_41 (by decide) ?_
      refine ev_zret d_Model_isSpec_42 rfl rfl ?_
      exact ⟨_, rfl, _, e, b, rfl, rfl, he1, he2, Nat.le_refl _⟩
    · have hkb : k < b := by
        rcases Nat.lt_or_ge k b with q | q
        · exact q
        · exact absurd (by rw [show k = b by omega]) c_38
      have qk : W[k]? = some W[k] := List.getElem?_eq_getElem (by omega)
      generalize W[k] = wd at qk
      refine ev_aload_n d_Model_isSpec_43 rfl rfl ?_
      refine ev_iload_n d_Model_isSpec_44 rfl rfl ?_
      refine ev_bipush (v := 64) d_Model_isSpec_45 (by decide) ?_
      refine mo_Vv [.int (nI k), .int 64] [] ca_Model_isSpec_200 d_Model_isSpec_47 rfl (Nat.le_of_ble_eq_true rfl) (c_Model_is hT hW1 hl qk 64) ?_
      refine ev_if_ne (tgt := 55) d_Model_isSpec_50 (by decide) (fun c_50 => ?_) (fun c_50 => ?_)
      rotate_left
      · refine ev_iconst (v := 0) d_Model_isSpec_53 (by decide) ?_
        refine ev_zret d_Model_isSpec_54 rfl rfl ?_
        exact ⟨_, rfl, _, e, b, rfl, rfl, he1, he2, Nat.le_refl _⟩
      · refine ev_aload_n d_Model_isSpec_55 rfl rfl ?_
        refine ev_iload_n d_Model_isSpec_56 rfl rfl ?_
        refine ev_iconst (v := 1) d_Model_isSpec_57 (by decide) ?_
        refine ev_iadd d_Model_isSpec_58 ?_
        rw [nI_1]
        refine mo_put (fp_Model_224 rfl rfl) d_Model_isSpec_59 (Nat.le_of_ble_eq_true rfl) rfl rfl rfl ?_
        rw [upd_upd]
        have hW2 : wOk W (upd (upd I 42 (nI e)) 43 (nI (k + 1))) R := wOk_I hW rfl rfl
        have h43 : (upd (upd I 42 (nI e)) 43 (nI (k + 1))) 43 = nI (k + 1) := by simp [upd]
        have done : ∀ z : Int32, cr (fun v h' => ∃ (z : Int32) (e d : Nat), v = .int z ∧ h' = mo_ov cI cZ h0 M (upd (upd I 42 (nI e)) 43 (nI d)) R ∧ a ≤ e ∧ e ≤ d ∧ d ≤ b) (some (.int z)) (mo_ov cI cZ h0 M (upd (upd I 42 (nI e)) 43 (nI (k + 1))) R) := fun z => ⟨_, rfl, z, e, k + 1, rfl, rfl, he1, by omega, by omega⟩
        refine ev_aload_n d_Model_isSpec_62 rfl rfl ?_
        refine ev_aload_n d_Model_isSpec_63 rfl rfl ?_
        refine mo_get (fa_Model_224 rfl rfl) d_Model_isSpec_64 rfl ?_
        rw [h43]
        refine ev_iload_n d_Model_isSpec_67 rfl rfl ?_
        refine mo_Vv [.int (nI (k + 1)), .int (nI b)] [] ca_Model_isSpec_197 d_Model_isSpec_68 rfl (Nat.le_of_ble_eq_true rfl) (c_Model_next hT hW2 hl hbW (by omega)) ?_
        have hn1 := nx_le W (a := k + 1) (b := b) (by omega) hbW
        have hn2 := nx_ge W (k + 1) b
        generalize nx W (k + 1) b = w1 at hn1 hn2 ⊢
        have a109 : ev_E G m_Model_isSpec 109 [(0, .ref M), (1, .int (nI a)), (2, .int (nI b)), (3, .int (nI k)), (4, .int (nI w1))] [] (mo_ov cI cZ h0 M (upd (upd I 42 (nI e)) 43 (nI (k + 1))) R) (cr (fun v h' => ∃ (z : Int32) (e d : Nat), v = .int z ∧ h' = mo_ov cI cZ h0 M (upd (upd I 42 (nI e)) 43 (nI d)) R ∧ a ≤ e ∧ e ≤ d ∧ d ≤ b)) := by
          refine ev_aload_n d_Model_isSpec_109 rfl rfl ?_
          refine ev_aload_n d_Model_isSpec_110 rfl rfl ?_
          refine mo_get (fa_Model_224 rfl rfl) d_Model_isSpec_111 rfl ?_
          rw [h43]
          refine ev_iload_n d_Model_isSpec_114 rfl rfl ?_
          refine ev_iconst (v := 0) d_Model_isSpec_115 (by decide) ?_
          refine mo_Vr [.int (nI (k + 1)), .int (nI b), .int 0] [] ca_Model_isSpec_217 d_Model_isSpec_116 rfl (Nat.le_of_ble_eq_true rfl) (c_Model_rowEnd hT hW2 hl (by omega) hbW 0) (fun v h1 z => ?_)
          obtain ⟨⟨e2, rfl, g1, g2⟩, rfl⟩ := z
          refine ev_istore d_Model_isSpec_119 (by decide) ?_
          refine ev_iload d_Model_isSpec_121 rfl ?_
          refine ev_aload_n d_Model_isSpec_123 rfl rfl ?_
          refine mo_get (fa_Model_224 rfl rfl) d_Model_isSpec_124 rfl ?_
          rw [h43]
          refine ev_icmp_le (tgt := 145) d_Model_isSpec_127 (by decide) (fun c_127 => ?_) (fun c_127 => ?_)
          · refine ev_iconst (v := 0) d_Model_isSpec_145 (by decide) ?_
            refine ev_zret d_Model_isSpec_146 rfl rfl ?_
            exact done _
          · refine ev_aload_n d_Model_isSpec_130 rfl rfl ?_
            refine ev_iload d_Model_isSpec_131 rfl ?_
            refine ev_iload_n d_Model_isSpec_133 rfl rfl ?_
            refine mo_Vv [.int (nI e2), .int (nI b)] [] ca_Model_isSpec_197 d_Model_isSpec_134 rfl (Nat.le_of_ble_eq_true rfl) (c_Model_next hT hW2 hl hbW (by omega)) ?_
            refine ev_iload_n d_Model_isSpec_137 rfl rfl ?_
            refine ev_icmp_ne (tgt := 145) d_Model_isSpec_138 (by decide) (fun c_138 => ?_) (fun c_138 => ?_)
            · refine ev_iconst (v := 0) d_Model_isSpec_145 (by decide) ?_
              refine ev_zret d_Model_isSpec_146 rfl rfl ?_
              exact done _
            · refine ev_iconst (v := 1) d_Model_isSpec_141 (by decide) ?_
              refine ev_goto (tgt := 146) d_Model_isSpec_142 (by decide) ?_
              refine ev_zret d_Model_isSpec_146 rfl rfl ?_
              exact done _
        refine ev_istore d_Model_isSpec_71 (by decide) ?_
        refine ev_iload d_Model_isSpec_73 rfl ?_
        refine ev_iload_n d_Model_isSpec_75 rfl rfl ?_
        refine ev_icmp_ge (tgt := 109) d_Model_isSpec_76 (by decide) (fun c_76 => ?_) (fun c_76 => ?_)
        · exact a109
        · have hwb := lt_of_nge (by omega) c_76
          have i8 : vp_in (nI w1) (mo_len 8) := vp_in_nI (show w1 < 1501 by omega) (by decide)
          refine ev_aload_n d_Model_isSpec_79 rfl rfl ?_
          refine mo_get (fa_Model_31 rfl rfl) d_Model_isSpec_80 rfl ?_
          refine ev_iload d_Model_isSpec_83 rfl ?_
          refine mo_ald hT d_Model_isSpec_85 (by decide) i8 ?_
          refine ev_iconst (v := 2) d_Model_isSpec_86 (by decide) ?_
          refine ev_icmp_ne (tgt := 109) d_Model_isSpec_87 (by decide) (fun c_87 => ?_) (fun c_87 => ?_)
          · exact a109
          · refine ev_aload_n d_Model_isSpec_90 rfl rfl ?_
            refine ev_iload d_Model_isSpec_91 rfl ?_
            refine ev_iconst (v := 1) d_Model_isSpec_93 (by decide) ?_
            refine ev_iadd d_Model_isSpec_94 ?_
            rw [nI_1]
            refine ev_iload_n d_Model_isSpec_95 rfl rfl ?_
            refine mo_Vv [.int (nI (w1 + 1)), .int (nI b)] [] ca_Model_isSpec_197 d_Model_isSpec_96 rfl (Nat.le_of_ble_eq_true rfl) (c_Model_next hT hW2 hl hbW (by omega)) ?_
            refine ev_iload_n d_Model_isSpec_99 rfl rfl ?_
            refine ev_icmp_ne (tgt := 107) d_Model_isSpec_100 (by decide) (fun c_100 => ?_) (fun c_100 => ?_)
            · refine ev_iconst (v := 0) d_Model_isSpec_107 (by decide) ?_
              refine ev_zret d_Model_isSpec_108 rfl rfl ?_
              exact done _
            · refine ev_iconst (v := 1) d_Model_isSpec_103 (by decide) ?_
              refine ev_goto (tgt := 108) d_Model_isSpec_104 (by decide) ?_
              refine ev_zret d_Model_isSpec_108 rfl rfl ?_
              exact done _
theorem l_Model_behindRoute (hT : (gl_t G)[0]? = some (cI, .int)) (hW : wOk W I R) (hl : W.length ≤ 1501) {a b : Nat} (hab : a ≤ b) (hbW : b ≤ W.length) : ∀ (n k : Nat), b ≤ k + n → a ≤ k → k ≤ b → ev_E G m_Model_behindRoute 7 [(0, .ref M), (1, .int (nI a)), (2, .int (nI b)), (3, .int (nI k))] [] (mo_ov cI cZ h0 M I R) (pn a b (mo_ov cI cZ h0 M I R)) := by
  intro n
  induction n with
  | zero =>
    intro k hk hak hkb
    refine ev_iload_n d_Model_behindRoute_7 rfl rfl ?_
    refine ev_iload_n d_Model_behindRoute_8 rfl rfl ?_
    refine ev_icmp_ge (tgt := 80) d_Model_behindRoute_9 (by decide) (fun _ => ?_) (fun z => absurd (nI_le (by omega) (by omega)) z)
    refine ev_iload_n d_Model_behindRoute_80 rfl rfl ?_
    refine ev_iret d_Model_behindRoute_81 rfl ?_
    exact ⟨_, rfl, ⟨a, rfl, Nat.le_refl _, hab⟩, rfl⟩
  | succ n ih =>
    intro k hk hak hkb
    refine ev_iload_n d_Model_behindRoute_7 rfl rfl ?_
    refine ev_iload_n d_Model_behindRoute_8 rfl rfl ?_
    refine ev_icmp_ge (tgt := 80) d_Model_behindRoute_9 (by decide) (fun c_9 => ?_) (fun c_9 => ?_)
    · refine ev_iload_n d_Model_behindRoute_80 rfl rfl ?_
      refine ev_iret d_Model_behindRoute_81 rfl ?_
      exact ⟨_, rfl, ⟨a, rfl, Nat.le_refl _, hab⟩, rfl⟩
    · have hlt := lt_of_nge (by omega) c_9
      have qk : W[k]? = some W[k] := List.getElem?_eq_getElem (by omega)
      generalize W[k] = wd at qk
      have i8 : vp_in (nI k) (mo_len 8) := vp_in_nI (show k < 1501 by omega) (by decide)
      have hn1 := nx_le W (a := k + 1) (b := b) (by omega) hbW
      have hn2 := nx_ge W (k + 1) b
      have on : ev_E G m_Model_behindRoute 68 [(0, .ref M), (1, .int (nI a)), (2, .int (nI b)), (3, .int (nI k))] [] (mo_ov cI cZ h0 M I R) (pn a b (mo_ov cI cZ h0 M I R)) := by
        refine ev_aload_n d_Model_behindRoute_68 rfl rfl ?_
        refine ev_iload_n d_Model_behindRoute_69 rfl rfl ?_
        refine ev_iconst (v := 1) d_Model_behindRoute_70 (by decide) ?_
        refine ev_iadd d_Model_behindRoute_71 ?_
        rw [nI_1]
        refine ev_iload_n d_Model_behindRoute_72 rfl rfl ?_
        refine mo_Vv [.int (nI (k + 1)), .int (nI b)] [] ca_Model_behindRoute_197 d_Model_behindRoute_73 rfl (Nat.le_of_ble_eq_true rfl) (c_Model_next hT hW hl hbW (by omega)) ?_
        refine ev_istore_n d_Model_behindRoute_76 rfl (by decide) ?_
        refine ev_goto (tgt := 7) d_Model_behindRoute_77 (by decide) ?_
        exact ih (nx W (k + 1) b) (by omega) (by omega) hn1
      refine ev_aload_n d_Model_behindRoute_12 rfl rfl ?_
      refine ev_iload_n d_Model_behindRoute_13 rfl rfl ?_
      refine ev_bipush (v := 58) d_Model_behindRoute_14 (by decide) ?_
      refine mo_Vv [.int (nI k), .int 58] [] ca_Model_behindRoute_200 d_Model_behindRoute_16 rfl (Nat.le_of_ble_eq_true rfl) (c_Model_is hT hW hl qk 58) ?_
      refine ev_if_eq (tgt := 26) d_Model_behindRoute_19 (by decide) (fun c_19 => ?_) (fun c_19 => ?_)
      · refine ev_aload_n d_Model_behindRoute_26 rfl rfl ?_
        refine mo_get (fa_Model_31 rfl rfl) d_Model_behindRoute_27 rfl ?_
        refine ev_iload_n d_Model_behindRoute_30 rfl rfl ?_
        refine mo_ald hT d_Model_behindRoute_31 (by decide) i8 ?_
        refine ev_iconst (v := 4) d_Model_behindRoute_32 (by decide) ?_
        refine ev_icmp_eq (tgt := 68) d_Model_behindRoute_33 (by decide) (fun c_33 => ?_) (fun c_33 => ?_)
        · exact on
        · refine ev_aload_n d_Model_behindRoute_36 rfl rfl ?_
          refine ev_iload_n d_Model_behindRoute_37 rfl rfl ?_
          refine ev_bipush (v := 64) d_Model_behindRoute_38 (by decide) ?_
          refine mo_Vv [.int (nI k), .int 64] [] ca_Model_behindRoute_200 d_Model_behindRoute_40 rfl (Nat.le_of_ble_eq_true rfl) (c_Model_is hT hW hl qk 64) ?_
          refine ev_if_ne (tgt := 68) d_Model_behindRoute_43 (by decide) (fun c_43 => ?_) (fun c_43 => ?_)
          · exact on
          · refine ev_aload_n d_Model_behindRoute_46 rfl rfl ?_
            refine ev_iload_n d_Model_behindRoute_47 rfl rfl ?_
            refine ev_bipush (v := 44) d_Model_behindRoute_48 (by decide) ?_
            refine mo_Vv [.int (nI k), .int 44] [] ca_Model_behindRoute_200 d_Model_behindRoute_50 rfl (Nat.le_of_ble_eq_true rfl) (c_Model_is hT hW hl qk 44) ?_
            refine ev_if_ne (tgt := 68) d_Model_behindRoute_53 (by decide) (fun c_53 => ?_) (fun c_53 => ?_)
            · exact on
            · refine ev_aload_n d_Model_behindRoute_56 rfl rfl ?_
              refine ev_iload_n d_Model_behindRoute_57 rfl rfl ?_
              refine ev_bipush (v := 46) d_Model_behindRoute_58 (by decide) ?_
              refine mo_Vv [.int (nI k), .int 46] [] ca_Model_behindRoute_200 d_Model_behindRoute_60 rfl (Nat.le_of_ble_eq_true rfl) (c_Model_is hT hW hl qk 46) ?_
              refine ev_if_ne (tgt := 68) d_Model_behindRoute_63 (by decide) (fun c_63 => ?_) (fun c_63 => ?_)
              · exact on
              · refine ev_iload_n d_Model_behindRoute_66 rfl rfl ?_
                refine ev_iret d_Model_behindRoute_67 rfl ?_
                exact ⟨_, rfl, ⟨a, rfl, Nat.le_refl _, hab⟩, rfl⟩
      · refine ev_iload_n d_Model_behindRoute_22 rfl rfl ?_
        refine ev_iconst (v := 1) d_Model_behindRoute_23 (by decide) ?_
        refine ev_iadd d_Model_behindRoute_24 ?_
        rw [nI_1]
        refine ev_iret d_Model_behindRoute_25 rfl ?_
        exact ⟨_, rfl, ⟨k + 1, rfl, by omega, by omega⟩, rfl⟩
theorem c_Model_behindRoute (hT : (gl_t G)[0]? = some (cI, .int)) (hW : wOk W I R) (hl : W.length ≤ 1501) {a b : Nat} (hab : a ≤ b) (hbW : b ≤ W.length) : ct_E G m_Model_behindRoute [.ref M, .int (nI a), .int (nI b)] (mo_ov cI cZ h0 M I R) (pn a b (mo_ov cI cZ h0 M I R)) := by
  have hnx := nx_le W hab hbW
  have hng := nx_ge W a b
  refine ct_of (ws' := tb_all) rfl rfl (Nat.le_of_ble_eq_true rfl) ?_
  refine ev_aload_n d_Model_behindRoute_0 rfl rfl ?_
  refine ev_iload_n d_Model_behindRoute_1 rfl rfl ?_
  refine ev_iload_n d_Model_behindRoute_2 rfl rfl ?_
  refine mo_Vv [.int (nI a), .int (nI b)] [] ca_Model_behindRoute_197 d_Model_behindRoute_3 rfl (Nat.le_of_ble_eq_true rfl) (c_Model_next hT hW hl hbW (by omega)) ?_
  refine ev_istore_n d_Model_behindRoute_6 rfl (by decide) ?_
  exact l_Model_behindRoute hT hW hl hab hbW (b - nx W a b) (nx W a b) (by omega) hng hnx
end ADR2
