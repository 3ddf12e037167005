section PRM3
variable {G : gl_G} {cI cZ : ClassId} {h0 : hp_T} {M : Nat} {I : Nat → Int32} {R : Nat → Nat → Int32} {W : Wds} {Q : List Prm}
theorem c_Model_takeParameter (hT : (gl_t G)[0]? = some (cI, .int)) (hZ : (gl_t G)[1]? = some (cZ, .boolean)) (hW : wOk W I R) (hl : W.length ≤ 1501) (hb : (wB W).length ≤ 1600) (h25 : hol (R 25) 0 (wB W)) (hQ : pmOk Q I R) (hQn : Q.length < 800) {k : Nat} (hk : k ≤ 1501) (hs : ∀ q, prmAt W k = some q → sumV Q + q.2.2.2.length ≤ 1600) : ct_E G m_Model_takeParameter [.ref M, .int (nI k)] (mo_ov cI cZ h0 M I R) (cn (tpP cI cZ h0 M I R Q (prmAt W k))) := by
  have key : ∀ a s v, nx W k W.length = a → nx W (a + 1) W.length = s → nx W (s + 1) W.length = v → prmAt W k = (match W[a]?, W[s]?, W[v]? with
      | some wa, some ws, some wv => if wa.1 = 4 ∧ wIs ws 61 = true ∧ (wv.1 = 4 ∨ wv.1 = 1) ∧ ¬ n2N wa.2.2 = 0 then some (wa.2.2.take (n2N wa.2.2), piN wa.2.2, cdN wa.2.2, wv.2.2) else none
      | _, _, _ => none) := fun a s v e1 e2 e3 => by
    subst e1; subst e2; subst e3; rfl
  have nxb : ∀ a, a ≤ 4000 → nx W a W.length ≤ a + 1501 := fun a ha => by
    rcases Nat.lt_or_ge a W.length with q | q
    · have := nx_le W (a := a) (b := W.length) (by omega) (Nat.le_refl _); omega
    · rw [nx_out W q]; omega
  obtain ⟨a, ea⟩ : ∃ a, nx W k W.length = a := ⟨_, rfl⟩
  obtain ⟨s, es⟩ : ∃ s, nx W (a + 1) W.length = s := ⟨_, rfl⟩
  obtain ⟨v, ev⟩ : ∃ v, nx W (s + 1) W.length = v := ⟨_, rfl⟩
  have ha1 : a ≤ 3002 := by have := nxb k (by omega); omega
  have hs1 : s ≤ 4504 := by
    rcases Nat.lt_or_ge (a + 1) W.length with q | q
    · have := nx_le W (a := a + 1) (b := W.length) (by omega) (Nat.le_refl _); omega
    · rw [nx_out W q] at es; omega
  have hv1 : v ≤ 6006 := by
    rcases Nat.lt_or_ge (s + 1) W.length with q | q
    · have := nx_le W (a := s + 1) (b := W.length) (by omega) (Nat.le_refl _); omega
    · rw [nx_out W q] at ev; omega
  have gs : a + 1 ≤ s := by rw [← es]; exact nx_ge W _ _
  have gv : s + 1 ≤ v := by rw [← ev]; exact nx_ge W _ _
  have hkey := key a s v ea es ev
  have h12 := hW.1
  refine ct_of (ws' := tb_all) rfl rfl (Nat.le_of_ble_eq_true rfl) ?_
  have back : prmAt W k = none → ev_E G m_Model_takeParameter 86 [(0, .ref M), (1, .int (nI k)), (2, .int (nI a)), (3, .int (nI s)), (4, .int (nI v))] [] (mo_ov cI cZ h0 M I R) (cn (tpP cI cZ h0 M I R Q (prmAt W k))) := by
    intro z
    refine ev_vret d_Model_takeParameter_86 rfl ?_
    rw [z]
    exact ⟨rfl, rfl⟩
  refine ev_aload_n d_Model_takeParameter_0 rfl rfl ?_
  refine ev_iload_n d_Model_takeParameter_1 rfl rfl ?_
  refine ev_aload_n d_Model_takeParameter_2 rfl rfl ?_
  refine mo_get (fa_Model_149 rfl rfl) d_Model_takeParameter_3 rfl ?_
  rw [h12]
  refine mo_Vv [.int (nI k), .int (nI W.length)] [] ca_Model_takeParameter_197 d_Model_takeParameter_6 rfl (Nat.le_of_ble_eq_true rfl) (c_Model_next hT hW hl (Nat.le_refl _) (by omega)) ?_
  rw [ea]
  refine ev_istore_n d_Model_takeParameter_9 rfl (by decide) ?_
  refine ev_aload_n d_Model_takeParameter_10 rfl rfl ?_
  refine ev_iload_n d_Model_takeParameter_11 rfl rfl ?_
  refine ev_iconst (v := 1) d_Model_takeParameter_12 (by decide) ?_
  refine ev_iadd d_Model_takeParameter_13 ?_
  rw [nI_1]
  refine ev_aload_n d_Model_takeParameter_14 rfl rfl ?_
  refine mo_get (fa_Model_149 rfl rfl) d_Model_takeParameter_15 rfl ?_
  rw [h12]
  refine mo_Vv [.int (nI (a + 1)), .int (nI W.length)] [] ca_Model_takeParameter_197 d_Model_takeParameter_18 rfl (Nat.le_of_ble_eq_true rfl) (c_Model_next hT hW hl (Nat.le_refl _) (by omega)) ?_
  rw [es]
  refine ev_istore_n d_Model_takeParameter_21 rfl (by decide) ?_
  refine ev_aload_n d_Model_takeParameter_22 rfl rfl ?_
  refine ev_iload_n d_Model_takeParameter_23 rfl rfl ?_
  refine ev_iconst (v := 1) d_Model_takeParameter_24 (by decide) ?_
  refine ev_iadd d_Model_takeParameter_25 ?_
  rw [nI_1]
  refine ev_aload_n d_Model_takeParameter_26 rfl rfl ?_
  refine mo_get (fa_Model_149 rfl rfl) d_Model_takeParameter_27 rfl ?_
  rw [h12]
  refine mo_Vv [.int (nI (s + 1)), .int (nI W.length)] [] ca_Model_takeParameter_197 d_Model_takeParameter_30 rfl (Nat.le_of_ble_eq_true rfl) (c_Model_next hT hW hl (Nat.le_refl _) (by omega)) ?_
  rw [ev]
  refine ev_istore d_Model_takeParameter_33 (by decide) ?_
  refine ev_iload d_Model_takeParameter_35 rfl ?_
  refine ev_aload_n d_Model_takeParameter_37 rfl rfl ?_
  refine mo_get (fa_Model_149 rfl rfl) d_Model_takeParameter_38 rfl ?_
  rw [h12]
  refine ev_as [(0, .ref M), (1, .int (nI k)), (2, .int (nI a)), (3, .int (nI s)), (4, .int (nI v))] ⟨rfl, rfl, rfl, rfl, rfl, trivial⟩ ?_
  refine ev_icmp_ge (tgt := 86) d_Model_takeParameter_41 (by decide) (fun c_41 => ?_) (fun c_41 => ?_)
  · have hle := (nI_leI (by omega) (by omega)).mp c_41
    refine back ?_
    rw [hkey, List.getElem?_eq_none (l := W) (i := v) hle]
    cases W[a]? <;> cases W[s]? <;> rfl
  · have hvW : v < W.length := by
      rcases Nat.lt_or_ge v W.length with q | q
      · exact q
      · exact absurd (nI_le q (by omega)) c_41
    have qa : W[a]? = some W[a] := List.getElem?_eq_getElem (by omega)
    have qs : W[s]? = some W[s] := List.getElem?_eq_getElem (by omega)
    have qv : W[v]? = some W[v] := List.getElem?_eq_getElem (by omega)
    generalize W[a] = wa at qa
    generalize W[s] = wsn at qs
    generalize W[v] = wv at qv
    rw [qa, qs, qv] at hkey
    have hkey2 : prmAt W k = if wa.1 = 4 ∧ wIs wsn 61 = true ∧ (wv.1 = 4 ∨ wv.1 = 1) ∧ ¬ n2N wa.2.2 = 0 then some (wa.2.2.take (n2N wa.2.2), piN wa.2.2, cdN wa.2.2, wv.2.2) else none := hkey
    have ia : ∀ k, mo_len k = 1501 → vp_in (nI a) (mo_len k) := fun k hk => by rw [hk]; exact vp_in_nI (by omega) (by decide)
    have iv : ∀ k, mo_len k = 1501 → vp_in (nI v) (mo_len k) := fun k hk => by rw [hk]; exact vp_in_nI (by omega) (by decide)
    have r8a := (hW.2.2.2 a wa qa).1
    have r8v := (hW.2.2.2 v wv qv).1
    obtain ⟨ra10, ra11, ab, af⟩ := wds_o hW qa
    obtain ⟨rv10, rv11, vb, vf⟩ := wds_o hW qv
    generalize (wB (W.take a)).length = oa at ra10 ra11 ab af
    generalize (wB (W.take v)).length = ov at rv10 rv11 vb vf
    have hnm := af (R 12) hW.2.2.1
    have n1l := n1N_le wa.2.2
    have n2l := n2N_le wa.2.2
    refine ev_aload_n d_Model_takeParameter_44 rfl rfl ?_
    refine mo_get (fa_Model_31 rfl rfl) d_Model_takeParameter_45 rfl ?_
    refine ev_iload_n d_Model_takeParameter_48 rfl rfl ?_
    refine mo_ald hT d_Model_takeParameter_49 (by decide) (ia 8 rfl) ?_
    rw [nI_clamp (by omega), r8a]
    refine ev_iconst (v := 4) d_Model_takeParameter_50 (by decide) ?_
    refine ev_icmp_ne (tgt := 86) d_Model_takeParameter_51 (by decide) (fun c_51 => ?_) (fun c_51 => ?_)
    · refine back ?_
      rw [hkey2]
      exact if_neg fun z => c_51 z.1
    · have w4 : wa.1 = 4 := by
        by_cases q : wa.1 = 4
        · exact q
        · first | exact absurd q c_51 | exact c_51
      refine ev_aload_n d_Model_takeParameter_54 rfl rfl ?_
      refine ev_iload_n d_Model_takeParameter_55 rfl rfl ?_
      refine ev_bipush (v := 61) d_Model_takeParameter_56 (by decide) ?_
      refine mo_Vv [.int (nI s), .int 61] [] ca_Model_takeParameter_200 d_Model_takeParameter_58 rfl (Nat.le_of_ble_eq_true rfl) (c_Model_is hT hW hl qs 61) ?_
      refine ev_if_eq (tgt := 86) d_Model_takeParameter_61 (by decide) (fun c_61 => ?_) (fun c_61 => ?_)
      · refine back ?_
        rw [hkey2]
        refine if_neg fun z => ?_
        rw [z.2.1] at c_61
        exact absurd c_61 (by decide)
      · have w61 : wIs wsn 61 = true := by
          cases hw : wIs wsn 61 with
          | true => rfl
          | false => rw [hw] at c_61; exact absurd rfl c_61
        -- from 87 on: the words are a parameter's, but its name may be empty
        have body : (wv.1 = 4 ∨ wv.1 = 1) → ev_E G m_Model_takeParameter 87 [(0, .ref M), (1, .int (nI k)), (2, .int (nI a)), (3, .int (nI s)), (4, .int (nI v))] [] (mo_ov cI cZ h0 M I R) (cn (tpP cI cZ h0 M I R Q (prmAt W k))) := by
          intro w14
          have at197 : ∀ (n2 : Nat) (pi : Int32), n2N wa.2.2 = n2 → piN wa.2.2 = pi → ev_E G m_Model_takeParameter 197 [(0, .ref M), (1, .int (nI k)), (2, .int (nI a)), (3, .int (nI s)), (4, .int (nI v)), (5, .int (nI (oa + n2))), (6, .int (bI (cdN wa.2.2))), (7, .int pi)] [] (mo_ov cI cZ h0 M I R) (cn (tpP cI cZ h0 M I R Q (prmAt W k))) := by
            intro n2 pi e2 epi
            refine ev_iload d_Model_takeParameter_197 rfl ?_
            refine ev_aload_n d_Model_takeParameter_199 rfl rfl ?_
            refine mo_get (fa_Model_37 rfl rfl) d_Model_takeParameter_200 rfl ?_
            refine ev_iload_n d_Model_takeParameter_203 rfl rfl ?_
            refine mo_ald hT d_Model_takeParameter_204 (by decide) (ia 10 rfl) ?_
            rw [nI_clamp (by omega), ra10]
            refine ev_icmp_ne (tgt := 209) d_Model_takeParameter_205 (by decide) (fun c_205 => ?_) (fun c_205 => ?_)
            · have hn0 : ¬ n2 = 0 := fun z => by
                rw [z, Nat.add_zero] at c_205
                exact absurd rfl c_205
              have hp : prmAt W k = some (wa.2.2.take n2, pi, cdN wa.2.2, wv.2.2) := by
                rw [hkey2, if_pos ⟨w4, w61, w14, by rw [e2]; exact hn0⟩, e2, epi]
              rw [hp]
              exact l_Model_tpS hT hZ hQ hQn hl (by omega) hvW ra10 rv10 rv11 (by omega) (by omega) (hs _ hp) (by rw [List.length_take]; omega) (hol_take (af (R 25) h25) _) (vf (R 25) h25)
            · have hn0 : n2 = 0 := by
                have c : nI (oa + n2) = nI oa := by
                  by_cases q : nI (oa + n2) = nI oa
                  · exact q
                  · first | exact absurd q c_205 | exact c_205
                have := (nI_eq (by omega) (by omega)).mp c
                omega
              refine ev_vret d_Model_takeParameter_208 rfl ?_
              rw [show prmAt W k = none by rw [hkey2]; exact if_neg fun z => z.2.2.2 (by rw [e2]; exact hn0)]
              exact ⟨rfl, rfl⟩
          have at135 : ∀ n1 : Nat, n1N wa.2.2 = n1 → ev_E G m_Model_takeParameter 135 [(0, .ref M), (1, .int (nI k)), (2, .int (nI a)), (3, .int (nI s)), (4, .int (nI v)), (5, .int (nI (oa + n1))), (6, .int (bI (cdN wa.2.2)))] [] (mo_ov cI cZ h0 M I R) (cn (tpP cI cZ h0 M I R Q (prmAt W k))) := by
            intro n1 e1
            have no : pcN wa.2.2 = false → ev_E G m_Model_takeParameter 197 [(0, .ref M), (1, .int (nI k)), (2, .int (nI a)), (3, .int (nI s)), (4, .int (nI v)), (5, .int (nI (oa + n1))), (6, .int (bI (cdN wa.2.2))), (7, .int (-1))] [] (mo_ov cI cZ h0 M I R) (cn (tpP cI cZ h0 M I R Q (prmAt W k))) := by
              intro z
              exact at197 n1 (-1) (by unfold n2N; rw [z, e1]; rfl) (by unfold piN; rw [z]; rfl)
            refine ev_iconst (v := (-1)) d_Model_takeParameter_135 (by decide) ?_
            refine ev_istore d_Model_takeParameter_136 (by decide) ?_
            refine ev_iload d_Model_takeParameter_138 rfl ?_
            refine ev_aload_n d_Model_takeParameter_140 rfl rfl ?_
            refine mo_get (fa_Model_37 rfl rfl) d_Model_takeParameter_141 rfl ?_
            refine ev_iload_n d_Model_takeParameter_144 rfl rfl ?_
            refine mo_ald hT d_Model_takeParameter_145 (by decide) (ia 10 rfl) ?_
            rw [nI_clamp (by omega), ra10]
            refine ev_isub d_Model_takeParameter_146 ?_
            rw [pk_sub (show oa ≤ oa + n1 by omega), Nat.add_sub_cancel_left]
            refine ev_iconst (v := 2) d_Model_takeParameter_147 (by decide) ?_
            refine ev_icmp_lt (tgt := 197) d_Model_takeParameter_148 (by decide) (fun c_148 => ?_) (fun c_148 => ?_)
            · have h2 := (nI_ltI (a := n1) (b := 2) (by omega) (by omega)).mp c_148
              exact no (decide_eq_false fun z => by have := z.1; omega)
            · have h2 : 2 ≤ n1 := by
                rcases Nat.lt_or_ge n1 2 with q | q
                · exact absurd (nI_lt q (by omega)) c_148
                · exact q
              have i1 : vp_in (nI (oa + n1 - 1)) (mo_len 12) := vp_in_nI (show oa + n1 - 1 < 1600 by omega) (by decide)
              have i2 : vp_in (nI (oa + n1 - 2)) (mo_len 12) := vp_in_nI (show oa + n1 - 2 < 1600 by omega) (by decide)
              have g1 : R 12 (oa + n1 - 1) = wa.2.2.getD (n1 - 1) 0 := by
                rw [show oa + n1 - 1 = oa + (n1 - 1) by omega]
                exact hol_getD hnm (by omega)
              have g2 : R 12 (oa + n1 - 2) = wa.2.2.getD (n1 - 2) 0 := by
                rw [show oa + n1 - 2 = oa + (n1 - 2) by omega]
                exact hol_getD hnm (by omega)
              refine ev_aload_n d_Model_takeParameter_151 rfl rfl ?_
              refine mo_get (fa_Model_43 rfl rfl) d_Model_takeParameter_152 rfl ?_
              refine ev_iload d_Model_takeParameter_155 rfl ?_
              refine ev_iconst (v := 1) d_Model_takeParameter_157 (by decide) ?_
              refine ev_isub d_Model_takeParameter_158 ?_
              rw [show nI (oa + n1) - 1 = nI (oa + n1 - 1) from pk_sub (b := 1) (by omega)]
              refine mo_ald hT d_Model_takeParameter_159 (by decide) i1 ?_
              rw [nI_clamp (by omega), g1]
              refine ev_Sv [.int (wa.2.2.getD (n1 - 1) 0)] [] ca_Model_takeParameter_271 d_Model_takeParameter_160 rfl (Nat.le_of_ble_eq_true rfl) (c_Model_isDigit _) ?_
              refine ev_if_eq (tgt := 197) d_Model_takeParameter_163 (by decide) (fun c_163 => ?_) (fun c_163 => ?_)
              · refine no (decide_eq_false fun z => ?_)
                rw [e1] at z
                exact z.2.1 c_163
              · refine ev_aload_n d_Model_takeParameter_166 rfl rfl ?_
                refine mo_get (fa_Model_43 rfl rfl) d_Model_takeParameter_167 rfl ?_
                refine ev_iload d_Model_takeParameter_170 rfl ?_
                refine ev_iconst (v := 2) d_Model_takeParameter_172 (by decide) ?_
                refine ev_isub d_Model_takeParameter_173 ?_
                rw [show nI (oa + n1) - 2 = nI (oa + n1 - 2) from pk_sub (b := 2) (by omega)]
                refine mo_ald hT d_Model_takeParameter_174 (by decide) i2 ?_
                rw [nI_clamp (by omega), g2]
                refine ev_bipush (v := 42) d_Model_takeParameter_175 (by decide) ?_
                refine ev_icmp_ne (tgt := 197) d_Model_takeParameter_177 (by decide) (fun c_177 => ?_) (fun c_177 => ?_)
                · refine no (decide_eq_false fun z => ?_)
                  rw [e1] at z
                  exact c_177 z.2.2
                · have g42 : wa.2.2.getD (n1 - 2) 0 = 42 := by
                    by_cases q : wa.2.2.getD (n1 - 2) 0 = 42
                    · exact q
                    · first | exact absurd q c_177 | exact c_177
                  have hpc : pcN wa.2.2 = true := decide_eq_true (by rw [e1]; exact ⟨h2, c_163, g42⟩)
                  refine ev_aload_n d_Model_takeParameter_180 rfl rfl ?_
                  refine mo_get (fa_Model_43 rfl rfl) d_Model_takeParameter_181 rfl ?_
                  refine ev_iload d_Model_takeParameter_184 rfl ?_
                  refine ev_iconst (v := 1) d_Model_takeParameter_186 (by decide) ?_
                  refine ev_isub d_Model_takeParameter_187 ?_
                  rw [show nI (oa + n1) - 1 = nI (oa + n1 - 1) from pk_sub (b := 1) (by omega)]
                  refine mo_ald hT d_Model_takeParameter_188 (by decide) i1 ?_
                  rw [nI_clamp (by omega), g1]
                  refine ev_bipush (v := 48) d_Model_takeParameter_189 (by decide) ?_
                  refine ev_isub d_Model_takeParameter_191 ?_
                  refine ev_istore d_Model_takeParameter_192 (by decide) ?_
                  refine ev_iinc d_Model_takeParameter_194 rfl (by decide) ?_
                  refine ev_as [(0, .ref M), (1, .int (nI k)), (2, .int (nI a)), (3, .int (nI s)), (4, .int (nI v)), (5, .int (nI (oa + (n1 - 2)))), (6, .int (bI (cdN wa.2.2))), (7, .int (wa.2.2.getD (n1 - 1) 0 - 48))] ⟨rfl, rfl, rfl, rfl, rfl, ?_, rfl, rfl, trivial⟩ ?_
                  · show some (Value.int (nI (oa + n1) + Int32.ofInt (-2))) = _
                    rw [show nI (oa + n1) + Int32.ofInt (-2) = nI (oa + n1) - nI 2 from by rw [Int32.sub_eq_add_neg]; rfl, pk_sub (by omega), show oa + n1 - 2 = oa + (n1 - 2) by omega]
                  · exact at197 (n1 - 2) _ (by unfold n2N; rw [hpc, e1]; rfl) (by unfold piN; rw [hpc, e1]; rfl)
          have at125 : ∀ cd : Bool, cdN wa.2.2 = cd → ev_E G m_Model_takeParameter 125 [(0, .ref M), (1, .int (nI k)), (2, .int (nI a)), (3, .int (nI s)), (4, .int (nI v)), (5, .int (nI (oa + wa.2.2.length)))] [.int (bI cd)] (mo_ov cI cZ h0 M I R) (cn (tpP cI cZ h0 M I R Q (prmAt W k))) := by
            intro cd hcd
            refine ev_istore d_Model_takeParameter_125 (by decide) ?_
            refine ev_iload d_Model_takeParameter_127 rfl ?_
            cases cd with
            | false =>
              refine ev_if_eq (tgt := 135) d_Model_takeParameter_129 (by decide) (fun _ => ?_) (fun z => absurd rfl z)
              have K := at135 wa.2.2.length (by unfold n1N; rw [hcd]; rfl)
              rw [hcd] at K
              exact K
            | true =>
              refine ev_if_eq (tgt := 135) d_Model_takeParameter_129 (by decide) (fun z => absurd (show (1 : Int32) = 0 from z) (by decide)) (fun _ => ?_)
              have hpos : 0 < wa.2.2.length := (of_decide_eq_true hcd).1
              refine ev_iinc d_Model_takeParameter_132 rfl (by decide) ?_
              have K := at135 (wa.2.2.length - 1) (by unfold n1N; rw [hcd]; rfl)
              rw [hcd] at K
              refine ev_as [(0, .ref M), (1, .int (nI k)), (2, .int (nI a)), (3, .int (nI s)), (4, .int (nI v)), (5, .int (nI (oa + (wa.2.2.length - 1)))), (6, .int (bI true))] ⟨rfl, rfl, rfl, rfl, rfl, ?_, rfl, trivial⟩ K
              show some (Value.int (nI (oa + wa.2.2.length) + Int32.ofInt (-1))) = _
              rw [show nI (oa + wa.2.2.length) + Int32.ofInt (-1) = nI (oa + wa.2.2.length) - nI 1 from by rw [Int32.sub_eq_add_neg]; rfl, pk_sub (by omega), show oa + wa.2.2.length - 1 = oa + (wa.2.2.length - 1) by omega]
          refine ev_aload_n d_Model_takeParameter_87 rfl rfl ?_
          refine mo_get (fa_Model_40 rfl rfl) d_Model_takeParameter_88 rfl ?_
          refine ev_iload_n d_Model_takeParameter_91 rfl rfl ?_
          refine mo_ald hT d_Model_takeParameter_92 (by decide) (ia 11 rfl) ?_
          rw [nI_clamp (by omega), ra11]
          refine ev_istore d_Model_takeParameter_93 (by decide) ?_
          refine ev_iload d_Model_takeParameter_95 rfl ?_
          refine ev_aload_n d_Model_takeParameter_97 rfl rfl ?_
          refine mo_get (fa_Model_37 rfl rfl) d_Model_takeParameter_98 rfl ?_
          refine ev_iload_n d_Model_takeParameter_101 rfl rfl ?_
          refine mo_ald hT d_Model_takeParameter_102 (by decide) (ia 10 rfl) ?_
          rw [nI_clamp (by omega), ra10]
          refine ev_icmp_le (tgt := 124) d_Model_takeParameter_103 (by decide) (fun c_103 => ?_) (fun c_103 => ?_)
          · have hle := (nI_leI (by omega) (by omega)).mp c_103
            refine ev_iconst (v := 0) d_Model_takeParameter_124 (by decide) ?_
            exact at125 false (decide_eq_false fun z => by have := z.1; omega)
          · have hpos : 0 < wa.2.2.length := by
              rcases Nat.eq_zero_or_pos wa.2.2.length with q | q
              · exact absurd (nI_le (by omega) (by omega)) c_103
              · exact q
            have i1 : vp_in (nI (oa + wa.2.2.length - 1)) (mo_len 12) := vp_in_nI (show oa + wa.2.2.length - 1 < 1600 by omega) (by decide)
            have g1 : R 12 (oa + wa.2.2.length - 1) = wa.2.2.getD (wa.2.2.length - 1) 0 := by
              rw [show oa + wa.2.2.length - 1 = oa + (wa.2.2.length - 1) by omega]
              exact hol_getD hnm (by omega)
            refine ev_aload_n d_Model_takeParameter_106 rfl rfl ?_
            refine mo_get (fa_Model_43 rfl rfl) d_Model_takeParameter_107 rfl ?_
            refine ev_iload d_Model_takeParameter_110 rfl ?_
            refine ev_iconst (v := 1) d_Model_takeParameter_112 (by decide) ?_
            refine ev_isub d_Model_takeParameter_113 ?_
            rw [show nI (oa + wa.2.2.length) - 1 = nI (oa + wa.2.2.length - 1) from pk_sub (b := 1) (by omega)]
            refine mo_ald hT d_Model_takeParameter_114 (by decide) i1 ?_
            rw [nI_clamp (by omega), g1]
            refine ev_bipush (v := 42) d_Model_takeParameter_115 (by decide) ?_
            refine ev_icmp_ne (tgt := 124) d_Model_takeParameter_117 (by decide) (fun c_117 => ?_) (fun c_117 => ?_)
            · refine ev_iconst (v := 0) d_Model_takeParameter_124 (by decide) ?_
              exact at125 false (decide_eq_false fun z => c_117 z.2)
            · have g42 : wa.2.2.getD (wa.2.2.length - 1) 0 = 42 := by
                by_cases q : wa.2.2.getD (wa.2.2.length - 1) 0 = 42
                · exact q
                · first | exact absurd q c_117 | exact c_117
              refine ev_iconst (v := 1) d_Model_takeParameter_120 (by decide) ?_
              refine ev_goto (tgt := 125) d_Model_takeParameter_121 (by decide) ?_
              exact at125 true (decide_eq_true ⟨hpos, g42⟩)
        refine ev_aload_n d_Model_takeParameter_64 rfl rfl ?_
        refine mo_get (fa_Model_31 rfl rfl) d_Model_takeParameter_65 rfl ?_
        refine ev_iload d_Model_takeParameter_68 rfl ?_
        refine mo_ald hT d_Model_takeParameter_70 (by decide) (iv 8 rfl) ?_
        rw [nI_clamp (by omega), r8v]
        refine ev_iconst (v := 4) d_Model_takeParameter_71 (by decide) ?_
        refine ev_icmp_eq (tgt := 87) d_Model_takeParameter_72 (by decide) (fun c_72 => ?_) (fun c_72 => ?_)
        · exact body (Or.inl c_72)
        · refine ev_aload_n d_Model_takeParameter_75 rfl rfl ?_
          refine mo_get (fa_Model_31 rfl rfl) d_Model_takeParameter_76 rfl ?_
          refine ev_iload d_Model_takeParameter_79 rfl ?_
          refine mo_ald hT d_Model_takeParameter_81 (by decide) (iv 8 rfl) ?_
          rw [nI_clamp (by omega), r8v]
          refine ev_iconst (v := 1) d_Model_takeParameter_82 (by decide) ?_
          refine ev_icmp_eq (tgt := 87) d_Model_takeParameter_83 (by decide) (fun c_83 => ?_) (fun c_83 => ?_)
          · exact body (Or.inr c_83)
          · refine back ?_
            rw [hkey2]
            exact if_neg fun z => z.2.2.1.elim c_72 c_83
end PRM3
