theorem rR_nodot {q : Bool} {d : Int32 × Int32 × List Int32} (h : wIs d 46 = false) (t : Wds) : ad_rR q (d :: t) = 0 := by
  cases t with
  | nil => rfl
  | cons w t => rw [ad_rR, h]; rfl
theorem spc_at {N D : Wds} {w : Int32 × Int32 × List Int32} (h1 : ¬ ad_rE true N = 0) (h2 : N.drop (ad_rE true N) = w :: D) : ad_spc N = bif wIs w 64 && ad_dom D then some (ad_rE true N) else none := by
  unfold ad_spc
  rw [if_neg h1, h2]
section ADS2
variable {G : gl_G} {cI cZ : ClassId} {h0 : hp_T} {M : Nat} {I : Nat → Int32} {R : Nat → Nat → Int32} {W : Wds}
theorem k_Model_isName (hT : (gl_t G)[0]? = some (cI, .int)) (hW : wOk W I R) (hl : W.length ≤ 1501) {b : Nat} (hbW : b ≤ W.length) {x : Int32} : ∀ (n k c : Nat), b ≤ k + n → k ≤ b → c ≤ k → (k < b → ∀ w, W[k]? = some w → ¬ w.1 = 0) → ev_E G m_Model_isName 10 [(0, .ref M), (1, .int x), (2, .int (nI b)), (3, .int (nI c)), (4, .int (nI k))] [] (mo_ov cI cZ h0 M I R) (cv (.int (bI (ad_all (nc (ad_sl W k b)) && decide (0 < c + (nc (ad_sl W k b)).length)))) (mo_ov cI cZ h0 M I R)) := by
  have fin : ∀ (c k : Nat) (y : Int32), b ≤ k → c ≤ 1501 → ev_E G m_Model_isName 68 [(0, .ref M), (1, .int x), (2, .int (nI b)), (3, .int (nI c)), (4, .int y)] [] (mo_ov cI cZ h0 M I R) (cv (.int (bI (ad_all (nc (ad_sl W k b)) && decide (0 < c + (nc (ad_sl W k b)).length)))) (mo_ov cI cZ h0 M I R)) := by
    intro c k y hbk hc
    rw [sl_nil hbk, show nc [] = [] from rfl, show (ad_all [] && decide (0 < c + ([] : Wds).length)) = decide (0 < c) from rfl]
    refine ev_iload_n d_Model_isName_68 rfl rfl ?_
    rcases Nat.eq_zero_or_pos c with hz | hp
    · subst hz
      refine ev_if_le (tgt := 76) d_Model_isName_69 (by decide) (fun _ => ?_) (fun z => absurd (by decide) z)
      refine ev_iconst (v := 0) d_Model_isName_76 (by decide) ?_
      refine ev_zret d_Model_isName_77 rfl rfl ?_
      exact ⟨rfl, rfl⟩
    · refine ev_if_le (tgt := 76) d_Model_isName_69 (by decide) (fun z => absurd z (nI_nle hp (by omega))) (fun _ => ?_)
      refine ev_iconst (v := 1) d_Model_isName_72 (by decide) ?_
      refine ev_goto (tgt := 77) d_Model_isName_73 (by decide) ?_
      refine ev_zret d_Model_isName_77 rfl rfl ?_
      rw [decide_eq_true hp]
      exact ⟨rfl, rfl⟩
  intro n
  induction n with
  | zero =>
    intro k c hk hkb hck hnc
    refine ev_iload d_Model_isName_10 rfl ?_
    refine ev_iload_n d_Model_isName_12 rfl rfl ?_
    refine ev_icmp_ge (tgt := 68) d_Model_isName_13 (by decide) (fun _ => ?_) (fun z => absurd (nI_le (by omega) (by omega)) z)
    exact fin c k _ (by omega) (by omega)
  | succ n ih =>
    intro k c hk hkb hck hnc
    refine ev_iload d_Model_isName_10 rfl ?_
    refine ev_iload_n d_Model_isName_12 rfl rfl ?_
    refine ev_icmp_ge (tgt := 68) d_Model_isName_13 (by decide) (fun c_13 => ?_) (fun c_13 => ?_)
    · have := (nI_leI (by omega) (by omega)).mp c_13
      exact fin c k _ (by omega) (by omega)
    · have hlt := lt_of_nge (by omega) c_13
      have qk : W[k]? = some W[k] := List.getElem?_eq_getElem (by omega)
      generalize W[k] = w at qk
      have i8 : vp_in (nI k) (mo_len 8) := vp_in_nI (show k < 1501 by omega) (by decide)
      have hnx := nx_le W (a := k + 1) (b := b) (by omega) hbW
      have hng := nx_ge W (k + 1) b
      have hsl : nc (ad_sl W k b) = w :: nc (ad_sl W (nx W (k + 1) b) b) := by
        rw [sl_step hlt hbW qk, nc_cons, if_neg (hnc hlt w qk), (nx_sl (a := k + 1) (by omega) hbW).2]
      have r8 := (hW.2.2.2 k w qk).1
      have on : ad_isN w = true → ev_E G m_Model_isName 51 [(0, .ref M), (1, .int x), (2, .int (nI b)), (3, .int (nI c)), (4, .int (nI k))] [] (mo_ov cI cZ h0 M I R) (cv (.int (bI (ad_all (nc (ad_sl W k b)) && decide (0 < c + (nc (ad_sl W k b)).length)))) (mo_ov cI cZ h0 M I R)) := by
        intro hN
        refine ev_iinc d_Model_isName_51 rfl (by decide) ?_
        refine ev_aload_n d_Model_isName_54 rfl rfl ?_
        refine ev_iload d_Model_isName_55 rfl ?_
        refine ev_iconst (v := 1) d_Model_isName_57 (by decide) ?_
        refine ev_iadd d_Model_isName_58 ?_
        rw [nI_1]
        refine ev_iload_n d_Model_isName_59 rfl rfl ?_
        refine mo_Vv [.int (nI (k + 1)), .int (nI b)] [] ca_Model_isName_197 d_Model_isName_60 rfl (Nat.le_of_ble_eq_true rfl) (c_Model_next hT hW hl hbW (by omega)) ?_
        refine ev_istore d_Model_isName_63 (by decide) ?_
        refine ev_goto (tgt := 10) d_Model_isName_65 (by decide) ?_
        have k9 := ih (nx W (k + 1) b) (c + 1) (by omega) hnx (by omega) (fun h w hw => nx_nc h hw)
        rw [hsl, ad_all, hN, Bool.true_and, List.length_cons, show c + ((nc (ad_sl W (nx W (k + 1) b) b)).length + 1) = c + 1 + (nc (ad_sl W (nx W (k + 1) b) b)).length by omega]
        refine ev_as [(0, .ref M), (1, .int x), (2, .int (nI b)), (3, .int (nI (c + 1))), (4, .int (nI (nx W (k + 1) b)))] ⟨rfl, rfl, rfl, ?_, rfl, trivial⟩ k9
        show some (Value.int (nI c + Int32.ofInt 1)) = _
        rw [show nI c + Int32.ofInt 1 = nI (c + 1) from nI_1 c]
      refine ev_aload_n d_Model_isName_16 rfl rfl ?_
      refine mo_get (fa_Model_31 rfl rfl) d_Model_isName_17 rfl ?_
      refine ev_iload d_Model_isName_20 rfl ?_
      refine mo_ald hT d_Model_isName_22 (by decide) i8 ?_
      refine ev_iconst (v := 4) d_Model_isName_23 (by decide) ?_
      rw [nI_clamp (by omega), r8]
      refine ev_icmp_eq (tgt := 51) d_Model_isName_24 (by decide) (fun c_24 => ?_) (fun c_24 => ?_)
      · exact on (by simp [ad_isN, c_24])
      · refine ev_aload_n d_Model_isName_27 rfl rfl ?_
        refine mo_get (fa_Model_31 rfl rfl) d_Model_isName_28 rfl ?_
        refine ev_iload d_Model_isName_31 rfl ?_
        refine mo_ald hT d_Model_isName_33 (by decide) i8 ?_
        refine ev_iconst (v := 1) d_Model_isName_34 (by decide) ?_
        rw [nI_clamp (by omega), r8]
        refine ev_icmp_eq (tgt := 51) d_Model_isName_35 (by decide) (fun c_35 => ?_) (fun c_35 => ?_)
        · exact on (by simp [ad_isN, c_35])
        · refine ev_aload_n d_Model_isName_38 rfl rfl ?_
          refine ev_iload d_Model_isName_39 rfl ?_
          refine ev_bipush (v := 46) d_Model_isName_41 (by decide) ?_
          refine mo_Vv [.int (nI k), .int 46] [] ca_Model_isName_200 d_Model_isName_43 rfl (Nat.le_of_ble_eq_true rfl) (c_Model_is hT hW hl qk 46) ?_
          cases h46 : wIs w 46 with
          | true =>
            refine ev_if_ne (tgt := 51) d_Model_isName_46 (by decide) (fun _ => ?_) (fun z => absurd (show (1 : Int32) = 0 from z) (by decide))
            exact on (by simp [ad_isN, h46])
          | false =>
            refine ev_if_ne (tgt := 51) d_Model_isName_46 (by decide) (fun z => absurd rfl z) (fun _ => ?_)
            refine ev_iconst (v := 0) d_Model_isName_49 (by decide) ?_
            refine ev_zret d_Model_isName_50 rfl rfl ?_
            rw [hsl, ad_all, show ad_isN w = false by simp [ad_isN, h46, c_24, c_35], Bool.false_and, Bool.false_and]
            exact ⟨rfl, rfl⟩
theorem s_Model_isName (hT : (gl_t G)[0]? = some (cI, .int)) (hW : wOk W I R) (hl : W.length ≤ 1501) {a b : Nat} (hab : a ≤ b) (hbW : b ≤ W.length) : ct_E G m_Model_isName [.ref M, .int (nI a), .int (nI b)] (mo_ov cI cZ h0 M I R) (cv (.int (bI (ad_all (nc (ad_sl W a b)) && decide (0 < (nc (ad_sl W a b)).length)))) (mo_ov cI cZ h0 M I R)) := by
  have hnx := nx_le W hab hbW
  refine ct_of (ws' := tb_all) rfl rfl (Nat.le_of_ble_eq_true rfl) ?_
  refine ev_iconst (v := 0) d_Model_isName_0 (by decide) ?_
  refine ev_istore_n d_Model_isName_1 rfl (by decide) ?_
  refine ev_aload_n d_Model_isName_2 rfl rfl ?_
  refine ev_iload_n d_Model_isName_3 rfl rfl ?_
  refine ev_iload_n d_Model_isName_4 rfl rfl ?_
  refine mo_Vv [.int (nI a), .int (nI b)] [] ca_Model_isName_197 d_Model_isName_5 rfl (Nat.le_of_ble_eq_true rfl) (c_Model_next hT hW hl hbW (by omega)) ?_
  refine ev_istore d_Model_isName_8 (by decide) ?_
  have k9 := k_Model_isName (x := nI a) (h0 := h0) (M := M) (cZ := cZ) hT hW hl hbW (b - nx W a b) (nx W a b) 0 (by omega) hnx (Nat.zero_le _) (fun h w hw => nx_nc h hw)
  rw [Nat.zero_add, ← (nx_sl hab hbW).2] at k9
  exact k9
theorem s_Model_isRowWord (hT : (gl_t G)[0]? = some (cI, .int)) (hW : wOk W I R) (hl : W.length ≤ 1501) {k b : Nat} {w : Int32 × Int32 × List Int32} (hlt : k < b) (hbW : b ≤ W.length) (qk : W[k]? = some w) (q : Bool) : ct_E G m_Model_isRowWord [.ref M, .int (nI k), .int (nI b), .int (bI q)] (mo_ov cI cZ h0 M I R) (cv (.int (bI (ad_rw q w))) (mo_ov cI cZ h0 M I R)) := by
  have i8 : vp_in (nI k) (mo_len 8) := vp_in_nI (show k < 1501 by omega) (by decide)
  have r8 := (hW.2.2.2 k w qk).1
  refine ct_of (ws' := tb_all) rfl rfl (Nat.le_of_ble_eq_true rfl) ?_
  refine ev_iload_n d_Model_isRowWord_0 rfl rfl ?_
  refine ev_iload_n d_Model_isRowWord_1 rfl rfl ?_
  refine ev_icmp_ge (tgt := 33) d_Model_isRowWord_2 (by decide) (fun z => absurd z (nI_ge hlt (by omega))) (fun _ => ?_)
  refine ev_aload_n d_Model_isRowWord_5 rfl rfl ?_
  refine mo_get (fa_Model_31 rfl rfl) d_Model_isRowWord_6 rfl ?_
  refine ev_iload_n d_Model_isRowWord_9 rfl rfl ?_
  refine mo_ald hT d_Model_isRowWord_10 (by decide) i8 ?_
  refine ev_iconst (v := 4) d_Model_isRowWord_11 (by decide) ?_
  rw [nI_clamp (by omega), r8]
  refine ev_icmp_eq (tgt := 29) d_Model_isRowWord_12 (by decide) (fun c_12 => ?_) (fun c_12 => ?_)
  · refine ev_iconst (v := 1) d_Model_isRowWord_29 (by decide) ?_
    refine ev_goto (tgt := 34) d_Model_isRowWord_30 (by decide) ?_
    refine ev_zret d_Model_isRowWord_34 rfl rfl ?_
    rw [show ad_rw q w = true by simp [ad_rw, c_12]]
    exact ⟨rfl, rfl⟩
  · refine ev_iload_n d_Model_isRowWord_15 rfl rfl ?_
    cases q with
    | false =>
      refine ev_if_eq (tgt := 33) d_Model_isRowWord_16 (by decide) (fun _ => ?_) (fun z => absurd rfl z)
      refine ev_iconst (v := 0) d_Model_isRowWord_33 (by decide) ?_
      refine ev_zret d_Model_isRowWord_34 rfl rfl ?_
      rw [show ad_rw false w = false by simp [ad_rw, c_12]]
      exact ⟨rfl, rfl⟩
    | true =>
      refine ev_if_eq (tgt := 33) d_Model_isRowWord_16 (by decide) (fun z => absurd (show (1 : Int32) = 0 from z) (by decide)) (fun _ => ?_)
      refine ev_aload_n d_Model_isRowWord_19 rfl rfl ?_
      refine mo_get (fa_Model_31 rfl rfl) d_Model_isRowWord_20 rfl ?_
      refine ev_iload_n d_Model_isRowWord_23 rfl rfl ?_
      refine mo_ald hT d_Model_isRowWord_24 (by decide) i8 ?_
      refine ev_iconst (v := 1) d_Model_isRowWord_25 (by decide) ?_
      rw [nI_clamp (by omega), r8]
      refine ev_icmp_ne (tgt := 33) d_Model_isRowWord_26 (by decide) (fun c_26 => ?_) (fun c_26 => ?_)
      · refine ev_iconst (v := 0) d_Model_isRowWord_33 (by decide) ?_
        refine ev_zret d_Model_isRowWord_34 rfl rfl ?_
        rw [show ad_rw true w = false by simp [ad_rw, c_12, c_26]]
        exact ⟨rfl, rfl⟩
      · refine ev_iconst (v := 1) d_Model_isRowWord_29 (by decide) ?_
        refine ev_goto (tgt := 34) d_Model_isRowWord_30 (by decide) ?_
        refine ev_zret d_Model_isRowWord_34 rfl rfl ?_
        rw [show ad_rw true w = true by simp [ad_rw, c_26]]
        exact ⟨rfl, rfl⟩
theorem s_Model_isRowWord_no {k b : Nat} (hbk : b ≤ k) (hk : k < 2 ^ 31) (q : Int32) : ct_E G m_Model_isRowWord [.ref M, .int (nI k), .int (nI b), .int q] (mo_ov cI cZ h0 M I R) (cv (.int 0) (mo_ov cI cZ h0 M I R)) := by
  refine ct_of (ws' := tb_all) rfl rfl (Nat.le_of_ble_eq_true rfl) ?_
  refine ev_iload_n d_Model_isRowWord_0 rfl rfl ?_
  refine ev_iload_n d_Model_isRowWord_1 rfl rfl ?_
  refine ev_icmp_ge (tgt := 33) d_Model_isRowWord_2 (by decide) (fun _ => ?_) (fun z => absurd (nI_le hbk hk) z)
  refine ev_iconst (v := 0) d_Model_isRowWord_33 (by decide) ?_
  refine ev_zret d_Model_isRowWord_34 rfl rfl ?_
  exact ⟨rfl, rfl⟩
/-- answers a place behind which the row has ended -/
abbrev pnR (W : Wds) (k b m : Nat) (h : hp_T) : Option Value → hp_T → Prop := cr (fun v h' => (∃ e : Nat, v = .int (nI e) ∧ k ≤ e ∧ e ≤ b ∧ nc (ad_sl W k e) = (nc (ad_sl W k b)).take m ∧ nc (ad_sl W e b) = (nc (ad_sl W k b)).drop m) ∧ h' = h)
theorem k_Model_rowEnd (hT : (gl_t G)[0]? = some (cI, .int)) (hW : wOk W I R) (hl : W.length ≤ 1501) {b : Nat} (hbW : b ≤ W.length) {q : Bool} {x1 : Int32} : ∀ (n k : Nat), b ≤ k + n → k ≤ b → ev_E G m_Model_rowEnd 27 [(0, .ref M), (1, .int x1), (2, .int (nI b)), (3, .int (bI q)), (4, .int (nI k)), (5, .int 1)] [] (mo_ov cI cZ h0 M I R) (pnR W k b (ad_rR q (nc (ad_sl W k b))) (mo_ov cI cZ h0 M I R)) := by
  intro n
  induction n using Nat.strongRecOn with
  | ind n ih =>
    intro k hk hkb
    have hnx := nx_le W (a := k) (b := b) hkb hbW
    have hng := nx_ge W k b
    refine ev_iload d_Model_rowEnd_27 rfl ?_
    refine ev_if_eq (tgt := 122) d_Model_rowEnd_29 (by decide) (fun z => absurd z (by decide)) (fun _ => ?_)
    refine ev_aload_n d_Model_rowEnd_32 rfl rfl ?_
    refine ev_iload d_Model_rowEnd_33 rfl ?_
    refine ev_iload_n d_Model_rowEnd_35 rfl rfl ?_
    refine mo_Vv [.int (nI k), .int (nI b)] [] ca_Model_rowEnd_197 d_Model_rowEnd_36 rfl (Nat.le_of_ble_eq_true rfl) (c_Model_next hT hW hl hbW (by omega)) ?_
    -- more is 0: out
    have out : ad_rR q (nc (ad_sl W k b)) = 0 → ∀ (x5 x6 x7 : Int32), ev_E G m_Model_rowEnd 105 [(0, .ref M), (1, .int x1), (2, .int (nI b)), (3, .int (bI q)), (4, .int (nI k)), (5, .int x5), (6, .int x6), (7, .int x7)] [] (mo_ov cI cZ h0 M I R) (pnR W k b (ad_rR q (nc (ad_sl W k b))) (mo_ov cI cZ h0 M I R)) := by
      intro hz x5 x6 x7
      rw [hz]
      refine ev_iconst (v := 0) d_Model_rowEnd_105 (by decide) ?_
      refine ev_istore d_Model_rowEnd_106 (by decide) ?_
      refine ev_iload d_Model_rowEnd_108 rfl ?_
      refine ev_if_eq (tgt := 119) d_Model_rowEnd_110 (by decide) (fun _ => ?_) (fun z => absurd rfl z)
      refine ev_goto (tgt := 27) d_Model_rowEnd_119 (by decide) ?_
      refine ev_iload d_Model_rowEnd_27 rfl ?_
      refine ev_if_eq (tgt := 122) d_Model_rowEnd_29 (by decide) (fun _ => ?_) (fun z => absurd rfl z)
      refine ev_iload d_Model_rowEnd_122 rfl ?_
      refine ev_iret d_Model_rowEnd_124 rfl ?_
      exact ⟨_, rfl, ⟨k, rfl, Nat.le_refl _, hkb, by rw [sl_nil (Nat.le_refl k)]; rfl, rfl⟩, rfl⟩
    refine ev_istore d_Model_rowEnd_39 (by decide) ?_
    refine ev_iload d_Model_rowEnd_41 rfl ?_
    refine ev_iload_n d_Model_rowEnd_43 rfl rfl ?_
    by_cases hdb : nx W k b < b
    · obtain ⟨wd, qd, hd0, hN⟩ := nx_lt hkb hbW hdb
      have hcutd := (nx_sl hkb hbW).1
      generalize nx W k b = dt at hnx hng hdb qd hN hcutd ⊢
      refine ev_icmp_ge (tgt := 70) d_Model_rowEnd_44 (by decide) (fun z => absurd z (nI_ge hdb (by omega))) (fun _ => ?_)
      refine ev_aload_n d_Model_rowEnd_47 rfl rfl ?_
      refine ev_iload d_Model_rowEnd_48 rfl ?_
      refine ev_bipush (v := 46) d_Model_rowEnd_50 (by decide) ?_
      refine mo_Vv [.int (nI dt), .int 46] [] ca_Model_rowEnd_200 d_Model_rowEnd_52 rfl (Nat.le_of_ble_eq_true rfl) (c_Model_is hT hW hl qd 46) ?_
      cases h46 : wIs wd 46 with
      | false =>
        have hz : ad_rR q (nc (ad_sl W k b)) = 0 := by rw [hN]; exact rR_nodot h46 _
        refine ev_if_eq (tgt := 70) d_Model_rowEnd_55 (by decide) (fun _ => ?_) (fun z => absurd rfl z)
        refine ev_iload_n d_Model_rowEnd_70 rfl rfl ?_
        refine ev_istore d_Model_rowEnd_71 (by decide) ?_
        refine ev_iload d_Model_rowEnd_73 rfl ?_
        refine ev_iload_n d_Model_rowEnd_75 rfl rfl ?_
        refine ev_icmp_ge (tgt := 105) d_Model_rowEnd_76 (by decide) (fun z => absurd z (nI_ge hdb (by omega))) (fun _ => ?_)
        refine ev_aload_n d_Model_rowEnd_79 rfl rfl ?_
        refine ev_iload d_Model_rowEnd_80 rfl ?_
        refine ev_bipush (v := 46) d_Model_rowEnd_82 (by decide) ?_
        refine mo_Vv [.int (nI dt), .int 46] [] ca_Model_rowEnd_200 d_Model_rowEnd_84 rfl (Nat.le_of_ble_eq_true rfl) (c_Model_is hT hW hl qd 46) ?_
        rw [h46]
        refine ev_if_eq (tgt := 105) d_Model_rowEnd_87 (by decide) (fun _ => ?_) (fun z => absurd rfl z)
        exact out hz _ _ _
      | true =>
        have hn2 := nx_le W (a := dt + 1) (b := b) (by omega) hbW
        have hn3 := nx_ge W (dt + 1) b
        refine ev_if_eq (tgt := 70) d_Model_rowEnd_55 (by decide) (fun z => absurd (show (1 : Int32) = 0 from z) (by decide)) (fun _ => ?_)
        refine ev_aload_n d_Model_rowEnd_58 rfl rfl ?_
        refine ev_iload d_Model_rowEnd_59 rfl ?_
        refine ev_iconst (v := 1) d_Model_rowEnd_61 (by decide) ?_
        refine ev_iadd d_Model_rowEnd_62 ?_
        rw [nI_1]
        refine ev_iload_n d_Model_rowEnd_63 rfl rfl ?_
        refine mo_Vv [.int (nI (dt + 1)), .int (nI b)] [] ca_Model_rowEnd_197 d_Model_rowEnd_64 rfl (Nat.le_of_ble_eq_true rfl) (c_Model_next hT hW hl hbW (by omega)) ?_
        refine ev_goto (tgt := 71) d_Model_rowEnd_67 (by decide) ?_
        refine ev_istore d_Model_rowEnd_71 (by decide) ?_
        refine ev_iload d_Model_rowEnd_73 rfl ?_
        refine ev_iload_n d_Model_rowEnd_75 rfl rfl ?_
        refine ev_icmp_ge (tgt := 105) d_Model_rowEnd_76 (by decide) (fun z => absurd z (nI_ge hdb (by omega))) (fun _ => ?_)
        refine ev_aload_n d_Model_rowEnd_79 rfl rfl ?_
        refine ev_iload d_Model_rowEnd_80 rfl ?_
        refine ev_bipush (v := 46) d_Model_rowEnd_82 (by decide) ?_
        refine mo_Vv [.int (nI dt), .int 46] [] ca_Model_rowEnd_200 d_Model_rowEnd_84 rfl (Nat.le_of_ble_eq_true rfl) (c_Model_is hT hW hl qd 46) ?_
        rw [h46]
        refine ev_if_eq (tgt := 105) d_Model_rowEnd_87 (by decide) (fun z => absurd (show (1 : Int32) = 0 from z) (by decide)) (fun _ => ?_)
        refine ev_aload_n d_Model_rowEnd_90 rfl rfl ?_
        refine ev_iload d_Model_rowEnd_91 rfl ?_
        refine ev_iload_n d_Model_rowEnd_93 rfl rfl ?_
        refine ev_iload_n d_Model_rowEnd_94 rfl rfl ?_
        by_cases hwb : nx W (dt + 1) b < b
        · obtain ⟨w2, q2, h20, hN2⟩ := nx_lt (a := dt + 1) (by omega) hbW hwb
          have hcut2 := (nx_sl (a := dt + 1) (b := b) (by omega) hbW).1
          generalize nx W (dt + 1) b = wn at hn2 hn3 hwb q2 hN2 hcut2 ⊢
          rw [hN2] at hN
          refine mo_Vv [.int (nI wn), .int (nI b), .int (bI q)] [] ca_Model_rowEnd_213 d_Model_rowEnd_95 rfl (Nat.le_of_ble_eq_true rfl) (s_Model_isRowWord hT hW hl hwb hbW q2 q) ?_
          cases hrw : ad_rw q w2 with
          | false =>
            refine ev_if_eq (tgt := 105) d_Model_rowEnd_98 (by decide) (fun _ => ?_) (fun z => absurd rfl z)
            exact out (by rw [hN, ad_rR, h46, hrw]; rfl) _ _ _
          | true =>
            refine ev_if_eq (tgt := 105) d_Model_rowEnd_98 (by decide) (fun z => absurd (show (1 : Int32) = 0 from z) (by decide)) (fun _ => ?_)
            refine ev_iconst (v := 1) d_Model_rowEnd_101 (by decide) ?_
            refine ev_goto (tgt := 106) d_Model_rowEnd_102 (by decide) ?_
            refine ev_istore d_Model_rowEnd_106 (by decide) ?_
            refine ev_iload d_Model_rowEnd_108 rfl ?_
            refine ev_if_eq (tgt := 119) d_Model_rowEnd_110 (by decide) (fun z => absurd z (by decide)) (fun _ => ?_)
            refine ev_iload d_Model_rowEnd_113 rfl ?_
            refine ev_iconst (v := 1) d_Model_rowEnd_115 (by decide) ?_
            refine ev_iadd d_Model_rowEnd_116 ?_
            rw [nI_1]
            refine ev_istore d_Model_rowEnd_117 (by decide) ?_
            refine ev_goto (tgt := 27) d_Model_rowEnd_119 (by decide) ?_
            refine ev_as [(0, .ref M), (1, .int x1), (2, .int (nI b)), (3, .int (bI q)), (4, .int (nI (wn + 1))), (5, .int 1)] ⟨rfl, rfl, rfl, rfl, rfl, rfl, trivial⟩ (ev_to (ih (b - (wn + 1)) (by omega) (wn + 1) (by omega) (by omega)) ?_)
            rintro o h' ⟨v, rfl, ⟨e, rfl, e1, e2, e3, e4⟩, rfl⟩
            have hpre : nc (ad_sl W k (wn + 1)) = [wd, w2] := by
              rw [sl_cut (W := W) (a := k) (m := dt) (b := wn + 1) (by omega) (by omega) (by omega), nc_app, hcutd, sl_step (show dt < wn + 1 by omega) (by omega) qd, nc_cons, if_neg hd0, sl_cut (W := W) (a := dt + 1) (m := wn) (b := wn + 1) (by omega) (by omega) (by omega), nc_app, hcut2, sl_one q2, nc_cons, if_neg h20]
              rfl
            refine ⟨_, rfl, ⟨e, rfl, by omega, e2, ?_, ?_⟩, rfl⟩
            · rw [hN, ad_rR, h46, hrw, sl_cut (W := W) (a := k) (m := wn + 1) (b := e) (by omega) e1 (by omega), nc_app, hpre, e3]
              rfl
            · rw [hN, ad_rR, h46, hrw, e4]
              rfl
        · have hN2 := nx_no (a := dt + 1) (by omega) hbW hwb
          rw [hN2] at hN
          refine mo_Vv [.int (nI (nx W (dt + 1) b)), .int (nI b), .int (bI q)] [] ca_Model_rowEnd_213 d_Model_rowEnd_95 rfl (Nat.le_of_ble_eq_true rfl) (s_Model_isRowWord_no (by omega) (by omega) (bI q)) ?_
          refine ev_if_eq (tgt := 105) d_Model_rowEnd_98 (by decide) (fun _ => ?_) (fun z => absurd rfl z)
          exact out (by rw [hN]; rfl) _ _ _
    · have hN := nx_no hkb hbW hdb
      refine ev_icmp_ge (tgt := 70) d_Model_rowEnd_44 (by decide) (fun _ => ?_) (fun z => absurd (nI_le (by omega) (by omega)) z)
      refine ev_iload_n d_Model_rowEnd_70 rfl rfl ?_
      refine ev_istore d_Model_rowEnd_71 (by decide) ?_
      refine ev_iload d_Model_rowEnd_73 rfl ?_
      refine ev_iload_n d_Model_rowEnd_75 rfl rfl ?_
      refine ev_icmp_ge (tgt := 105) d_Model_rowEnd_76 (by decide) (fun _ => ?_) (fun z => absurd (nI_le (by omega) (by omega)) z)
      exact out (by rw [hN]; rfl) _ _ _
theorem s_Model_rowEnd (hT : (gl_t G)[0]? = some (cI, .int)) (hW : wOk W I R) (hl : W.length ≤ 1501) {a b : Nat} (hab : a ≤ b) (hbW : b ≤ W.length) (q : Bool) : ct_E G m_Model_rowEnd [.ref M, .int (nI a), .int (nI b), .int (bI q)] (mo_ov cI cZ h0 M I R) (cr (fun v h' => (∃ e : Nat, v = .int (nI e) ∧ (ad_rE q (nc (ad_sl W a b)) = 0 ∧ e = a ∨ ¬ ad_rE q (nc (ad_sl W a b)) = 0 ∧ a < e ∧ e ≤ b ∧ nc (ad_sl W a e) = (nc (ad_sl W a b)).take (ad_rE q (nc (ad_sl W a b))) ∧ nc (ad_sl W e b) = (nc (ad_sl W a b)).drop (ad_rE q (nc (ad_sl W a b))))) ∧ h' = mo_ov cI cZ h0 M I R)) := by
  have hnx := nx_le W hab hbW
  have hng := nx_ge W a b
  refine ct_of (ws' := tb_all) rfl rfl (Nat.le_of_ble_eq_true rfl) ?_
  refine ev_aload_n d_Model_rowEnd_0 rfl rfl ?_
  refine ev_iload_n d_Model_rowEnd_1 rfl rfl ?_
  refine ev_iload_n d_Model_rowEnd_2 rfl rfl ?_
  refine mo_Vv [.int (nI a), .int (nI b)] [] ca_Model_rowEnd_197 d_Model_rowEnd_3 rfl (Nat.le_of_ble_eq_true rfl) (c_Model_next hT hW hl hbW (by omega)) ?_
  refine ev_istore d_Model_rowEnd_6 (by decide) ?_
  refine ev_aload_n d_Model_rowEnd_8 rfl rfl ?_
  refine ev_iload d_Model_rowEnd_9 rfl ?_
  refine ev_iload_n d_Model_rowEnd_11 rfl rfl ?_
  refine ev_iload_n d_Model_rowEnd_12 rfl rfl ?_
  by_cases hkb : nx W a b < b
  · obtain ⟨w, qk, hk0, hN⟩ := nx_lt hab hbW hkb
    have hcut := (nx_sl hab hbW).1
    generalize nx W a b = k at hnx hng hkb qk hN hcut ⊢
    refine mo_Vv [.int (nI k), .int (nI b), .int (bI q)] [] ca_Model_rowEnd_213 d_Model_rowEnd_13 rfl (Nat.le_of_ble_eq_true rfl) (s_Model_isRowWord hT hW hl hkb hbW qk q) ?_
    cases hrw : ad_rw q w with
    | false =>
      refine ev_if_ne (tgt := 21) d_Model_rowEnd_16 (by decide) (fun z => absurd rfl z) (fun _ => ?_)
      refine ev_iload_n d_Model_rowEnd_19 rfl rfl ?_
      refine ev_iret d_Model_rowEnd_20 rfl ?_
      exact ⟨_, rfl, ⟨a, rfl, Or.inl ⟨by rw [hN, ad_rE, hrw]; rfl, rfl⟩⟩, rfl⟩
    | true =>
      refine ev_if_ne (tgt := 21) d_Model_rowEnd_16 (by decide) (fun _ => ?_) (fun z => absurd (show (1 : Int32) = 0 from z) (by decide))
      have e0 : ad_rE q (nc (ad_sl W a b)) = ad_rR q (nc (ad_sl W (k + 1) b)) + 1 := by rw [hN, ad_rE, hrw]; rfl
      refine ev_iinc d_Model_rowEnd_21 rfl (by decide) ?_
      refine ev_iconst (v := 1) d_Model_rowEnd_24 (by decide) ?_
      refine ev_istore d_Model_rowEnd_25 (by decide) ?_
      rw [show nI k + Int32.ofInt 1 = nI (k + 1) from nI_1 k]
      refine ev_to (k_Model_rowEnd hT hW hl hbW (b - (k + 1)) (k + 1) (by omega) (by omega)) ?_
      rintro o h' ⟨v, rfl, ⟨e, rfl, e1, e2, e3, e4⟩, rfl⟩
      refine ⟨_, rfl, ⟨e, rfl, Or.inr ⟨by omega, by omega, e2, ?_, ?_⟩⟩, rfl⟩
      · rw [e0, hN, List.take_succ_cons, ← e3, sl_cut (W := W) (a := a) (m := k) (b := e) (by omega) (by omega) (by omega), nc_app, hcut, sl_step (show k < e by omega) (by omega) qk, nc_cons, if_neg hk0]
        rfl
      · rw [e0, hN, List.drop_succ_cons, ← e4]
  · have hN := nx_no hab hbW hkb
    refine mo_Vv [.int (nI (nx W a b)), .int (nI b), .int (bI q)] [] ca_Model_rowEnd_213 d_Model_rowEnd_13 rfl (Nat.le_of_ble_eq_true rfl) (s_Model_isRowWord_no (by omega) (by omega) (bI q)) ?_
    refine ev_if_ne (tgt := 21) d_Model_rowEnd_16 (by decide) (fun z => absurd rfl z) (fun _ => ?_)
    refine ev_iload_n d_Model_rowEnd_19 rfl rfl ?_
    refine ev_iret d_Model_rowEnd_20 rfl ?_
    exact ⟨_, rfl, ⟨a, rfl, Or.inl ⟨by rw [hN]; rfl, rfl⟩⟩, rfl⟩
/-- isSpec: whether it is one, and where LOCAL ends and DOMAIN begins -/
abbrev spP (cI cZ : ClassId) (h0 : hp_T) (M : Nat) (I : Nat → Int32) (R : Nat → Nat → Int32) (W : Wds) (a b : Nat) : Value → hp_T → Prop := fun v h' => ∃ (e d : Nat), v = .int (bI (ad_spc (nc (ad_sl W a b))).isSome) ∧ h' = mo_ov cI cZ h0 M (upd (upd I 42 (nI e)) 43 (nI d)) R ∧ ∀ n, ad_spc (nc (ad_sl W a b)) = some n → a ≤ e ∧ e ≤ d ∧ d ≤ b ∧ nc (ad_sl W a e) = (nc (ad_sl W a b)).take n ∧ nc (ad_sl W d b) = (nc (ad_sl W a b)).drop (n + 1)
theorem s_Model_isSpec (hT : (gl_t G)[0]? = some (cI, .int)) (hW : wOk W I R) (hl : W.length ≤ 1501) {a b : Nat} (hab : a ≤ b) (hbW : b ≤ W.length) : ct_E G m_Model_isSpec [.ref M, .int (nI a), .int (nI b)] (mo_ov cI cZ h0 M I R) (cr (spP cI cZ h0 M I R W a b)) := by
  refine ct_of (ws' := tb_all) rfl rfl (Nat.le_of_ble_eq_true rfl) ?_
  refine ev_aload_n d_Model_isSpec_0 rfl rfl ?_
  refine ev_aload_n d_Model_isSpec_1 rfl rfl ?_
  refine ev_iload_n d_Model_isSpec_2 rfl rfl ?_
  refine ev_iload_n d_Model_isSpec_3 rfl rfl ?_
  refine ev_iconst (v := 1) d_Model_isSpec_4 (by decide) ?_
  refine mo_Vr [.int (nI a), .int (nI b), .int (bI true)] [.ref M] ca_Model_isSpec_217 d_Model_isSpec_5 rfl (Nat.le_of_ble_eq_true rfl) (s_Model_rowEnd hT hW hl hab hbW true) (fun v h1 z => ?_)
  obtain ⟨⟨e, rfl, he⟩, z⟩ := z
  obtain rfl := z.symm
  refine mo_put (fp_Model_221 rfl rfl) d_Model_isSpec_8 (Nat.le_of_ble_eq_true rfl) rfl rfl rfl ?_
  refine ev_aload_n d_Model_isSpec_11 rfl rfl ?_
  refine ev_iload_n d_Model_isSpec_12 rfl rfl ?_
  refine mo_put (fp_Model_224 rfl rfl) d_Model_isSpec_13 (Nat.le_of_ble_eq_true rfl) rfl rfl rfl ?_
  have hW1 : wOk W (upd (upd I 42 (nI e)) 43 (nI b)) R := wOk_I hW rfl rfl
  have h42 : (upd (upd I 42 (nI e)) 43 (nI b)) 42 = nI e := rfl
  refine ev_aload_n d_Model_isSpec_16 rfl rfl ?_
  refine mo_get (fa_Model_221 rfl rfl) d_Model_isSpec_17 rfl ?_
  rw [h42]
  refine ev_iload_n d_Model_isSpec_20 rfl rfl ?_
  rcases he with ⟨hz, rfl⟩ | ⟨hz, he1, he2, he3, he4⟩
  · refine ev_icmp_ne (tgt := 26) d_Model_isSpec_21 (by decide) (fun z => absurd rfl z) (fun _ => ?_)
    have hno : ad_spc (nc (ad_sl W e b)) = none := by unfold ad_spc; rw [if_pos hz]
    refine ev_iconst (v := 0) d_Model_isSpec_24 (by decide) ?_
    refine ev_zret d_Model_isSpec_25 rfl rfl ?_
    exact ⟨_, rfl, e, b, by rw [hno]; rfl, rfl, fun n hn => by rw [hno] at hn; cases hn⟩
  · refine ev_icmp_ne (tgt := 26) d_Model_isSpec_21 (by decide) (fun _ => ?_) (fun z => absurd ((nI_eq (by omega) (by omega)).mp z) (by omega))
    refine ev_aload_n d_Model_isSpec_26 rfl rfl ?_
    refine ev_aload_n d_Model_isSpec_27 rfl rfl ?_
    refine mo_get (fa_Model_221 rfl rfl) d_Model_isSpec_28 rfl ?_
    rw [h42]
    refine ev_iload_n d_Model_isSpec_31 rfl rfl ?_
    refine mo_Vv [.int (nI e), .int (nI b)] [] ca_Model_isSpec_197 d_Model_isSpec_32 rfl (Nat.le_of_ble_eq_true rfl) (c_Model_next hT hW1 hl hbW (by omega)) ?_
    have hnx := nx_le W (a := e) (b := b) he2 hbW
    have hng := nx_ge W e b
    refine ev_istore_n d_Model_isSpec_35 rfl (by decide) ?_
    refine ev_iload_n d_Model_isSpec_36 rfl rfl ?_
    refine ev_iload_n d_Model_isSpec_37 rfl rfl ?_
    by_cases hkb : nx W e b < b
    · obtain ⟨wd, qk, hk0, hN⟩ := nx_lt he2 hbW hkb
      generalize nx W e b = k at hnx hng hkb qk hN ⊢
      have hdr : (nc (ad_sl W a b)).drop (ad_rE true (nc (ad_sl W a b))) = wd :: nc (ad_sl W (k + 1) b) := by rw [← he4, hN]
      have hsp := spc_at hz hdr
      refine ev_icmp_ne (tgt := 43) d_Model_isSpec_38 (by decide) (fun _ => ?_) (fun z => absurd ((nI_eq (by omega) (by omega)).mp z) (by omega))
      refine ev_aload_n d_Model_isSpec_43 rfl rfl ?_
      refine ev_iload_n d_Model_isSpec_44 rfl rfl ?_
      refine ev_bipush (v := 64) d_Model_isSpec_45 (by decide) ?_
      refine mo_Vv [.int (nI k), .int 64] [] ca_Model_isSpec_200 d_Model_isSpec_47 rfl (Nat.le_of_ble_eq_true rfl) (c_Model_is hT hW1 hl qk 64) ?_
      cases h64 : wIs wd 64 with
      | false =>
        refine ev_if_ne (tgt := 55) d_Model_isSpec_50 (by decide) (fun z => absurd rfl z) (fun _ => ?_)
        rw [h64, Bool.false_and, cond_false] at hsp
        refine ev_iconst (v := 0) d_Model_isSpec_53 (by decide) ?_
        refine ev_zret d_Model_isSpec_54 rfl rfl ?_
        exact ⟨_, rfl, e, b, by rw [hsp]; rfl, rfl, fun n hn => by rw [hsp] at hn; cases hn⟩
      | true =>
        refine ev_if_ne (tgt := 55) d_Model_isSpec_50 (by decide) (fun _ => ?_) (fun z => absurd (show (1 : Int32) = 0 from z) (by decide))
        rw [h64, Bool.true_and] at hsp
        refine ev_aload_n d_Model_isSpec_55 rfl rfl ?_
        refine ev_iload_n d_Model_isSpec_56 rfl rfl ?_
        refine ev_iconst (v := 1) d_Model_isSpec_57 (by decide) ?_
        refine ev_iadd d_Model_isSpec_58 ?_
        rw [nI_1]
        refine mo_put (fp_Model_224 rfl rfl) d_Model_isSpec_59 (Nat.le_of_ble_eq_true rfl) rfl rfl rfl ?_
        rw [upd_upd]
        have hW2 : wOk W (upd (upd I 42 (nI e)) 43 (nI (k + 1))) R := wOk_I hW rfl rfl
        have h43 : (upd (upd I 42 (nI e)) 43 (nI (k + 1))) 43 = nI (k + 1) := by simp [upd]
        -- what is answered at the end
        have done : cr (spP cI cZ h0 M I R W a b) (some (.int (bI (ad_dom (nc (ad_sl W (k + 1) b)))))) (mo_ov cI cZ h0 M (upd (upd I 42 (nI e)) 43 (nI (k + 1))) R) := by
          refine ⟨_, rfl, e, k + 1, ?_, rfl, fun n hn => ?_⟩
          · rw [hsp]
            cases ad_dom (nc (ad_sl W (k + 1) b)) <;> rfl
          · cases hdm : ad_dom (nc (ad_sl W (k + 1) b)) with
            | false => rw [hdm] at hsp; rw [hsp] at hn; cases hn
            | true =>
              rw [hdm, cond_true] at hsp
              rw [hsp] at hn
              cases hn
              refine ⟨by omega, by omega, by omega, he3, ?_⟩
              have := congrArg (fun l => l.drop 1) hdr
              simp only [List.drop_drop, List.drop_succ_cons, List.drop_zero] at this
              rw [← this]
        refine ev_aload_n d_Model_isSpec_62 rfl rfl ?_
        refine ev_aload_n d_Model_isSpec_63 rfl rfl ?_
        refine mo_get (fa_Model_224 rfl rfl) d_Model_isSpec_64 rfl ?_
        rw [h43]
        refine ev_iload_n d_Model_isSpec_67 rfl rfl ?_
        refine mo_Vv [.int (nI (k + 1)), .int (nI b)] [] ca_Model_isSpec_197 d_Model_isSpec_68 rfl (Nat.le_of_ble_eq_true rfl) (c_Model_next hT hW2 hl hbW (by omega)) ?_
        have hn1 := nx_le W (a := k + 1) (b := b) (by omega) hbW
        have hn2 := nx_ge W (k + 1) b
        -- by the row
        have a109 : ∀ x4 : Int32, (ad_dom (nc (ad_sl W (k + 1) b)) = decide (ad_rE false (nc (ad_sl W (k + 1) b)) = (nc (ad_sl W (k + 1) b)).length ∧ ¬ ad_rE false (nc (ad_sl W (k + 1) b)) = 0)) → ev_E G m_Model_isSpec 109 [(0, .ref M), (1, .int (nI a)), (2, .int (nI b)), (3, .int (nI k)), (4, .int x4)] [] (mo_ov cI cZ h0 M (upd (upd I 42 (nI e)) 43 (nI (k + 1))) R) (cr (spP cI cZ h0 M I R W a b)) := by
          intro x4 hdm
          have hrl := ad_rE_le false (nc (ad_sl W (k + 1) b))
          refine ev_aload_n d_Model_isSpec_109 rfl rfl ?_
          refine ev_aload_n d_Model_isSpec_110 rfl rfl ?_
          refine mo_get (fa_Model_224 rfl rfl) d_Model_isSpec_111 rfl ?_
          rw [h43]
          refine ev_iload_n d_Model_isSpec_114 rfl rfl ?_
          refine ev_iconst (v := 0) d_Model_isSpec_115 (by decide) ?_
          refine mo_Vr [.int (nI (k + 1)), .int (nI b), .int (bI false)] [] ca_Model_isSpec_217 d_Model_isSpec_116 rfl (Nat.le_of_ble_eq_true rfl) (s_Model_rowEnd hT hW2 hl (by omega) hbW false) (fun v h1 z => ?_)
          obtain ⟨⟨e2, rfl, g⟩, z⟩ := z
          obtain rfl := z.symm
          refine ev_istore d_Model_isSpec_119 (by decide) ?_
          refine ev_iload d_Model_isSpec_121 rfl ?_
          refine ev_aload_n d_Model_isSpec_123 rfl rfl ?_
          refine mo_get (fa_Model_224 rfl rfl) d_Model_isSpec_124 rfl ?_
          rw [h43]
          rcases g with ⟨gz, rfl⟩ | ⟨gz, g1, g2, g3, g4⟩
          · refine ev_icmp_le (tgt := 145) d_Model_isSpec_127 (by decide) (fun _ => ?_) (fun z => absurd (nI_le (Nat.le_refl _) (by omega)) z)
            rw [decide_eq_false (fun z => z.2 gz)] at hdm
            rw [hdm] at done
            refine ev_iconst (v := 0) d_Model_isSpec_145 (by decide) ?_
            refine ev_zret d_Model_isSpec_146 rfl rfl ?_
            exact done
          · refine ev_icmp_le (tgt := 145) d_Model_isSpec_127 (by decide) (fun z => absurd z (nI_ge g1 (by omega))) (fun _ => ?_)
            refine ev_aload_n d_Model_isSpec_130 rfl rfl ?_
            refine ev_iload d_Model_isSpec_131 rfl ?_
            refine ev_iload_n d_Model_isSpec_133 rfl rfl ?_
            refine mo_Vv [.int (nI e2), .int (nI b)] [] ca_Model_isSpec_197 d_Model_isSpec_134 rfl (Nat.le_of_ble_eq_true rfl) (c_Model_next hT hW2 hl hbW (by omega)) ?_
            have hn5 := nx_le W (a := e2) (b := b) g2 hbW
            refine ev_iload_n d_Model_isSpec_137 rfl rfl ?_
            by_cases hq : nx W e2 b = b
            · refine ev_icmp_ne (tgt := 145) d_Model_isSpec_138 (by decide) (fun z => absurd (by rw [hq]) z) (fun _ => ?_)
              have h5 := (nx_iff g2 hbW).mp hq
              rw [g4, List.drop_eq_nil_iff] at h5
              rw [decide_eq_true ⟨by omega, gz⟩] at hdm
              rw [hdm] at done
              refine ev_iconst (v := 1) d_Model_isSpec_141 (by decide) ?_
              refine ev_goto (tgt := 146) d_Model_isSpec_142 (by decide) ?_
              refine ev_zret d_Model_isSpec_146 rfl rfl ?_
              exact done
            · refine ev_icmp_ne (tgt := 145) d_Model_isSpec_138 (by decide) (fun _ => ?_) (fun z => absurd ((nI_eq (by omega) (by omega)).mp z) hq)
              rw [decide_eq_false (fun z => hq ((nx_iff g2 hbW).mpr (by rw [g4, List.drop_eq_nil_iff]; omega)))] at hdm
              rw [hdm] at done
              refine ev_iconst (v := 0) d_Model_isSpec_145 (by decide) ?_
              refine ev_zret d_Model_isSpec_146 rfl rfl ?_
              exact done
        refine ev_istore d_Model_isSpec_71 (by decide) ?_
        refine ev_iload d_Model_isSpec_73 rfl ?_
        refine ev_iload_n d_Model_isSpec_75 rfl rfl ?_
        by_cases hwb : nx W (k + 1) b < b
        · obtain ⟨w2, q2, h20, hN2⟩ := nx_lt (a := k + 1) (by omega) hbW hwb
          generalize nx W (k + 1) b = w1 at hn1 hn2 hwb q2 hN2 ⊢
          refine ev_icmp_ge (tgt := 109) d_Model_isSpec_76 (by decide) (fun z => absurd z (nI_ge hwb (by omega))) (fun _ => ?_)
          have i8 : vp_in (nI w1) (mo_len 8) := vp_in_nI (show w1 < 1501 by omega) (by decide)
          refine ev_aload_n d_Model_isSpec_79 rfl rfl ?_
          refine mo_get (fa_Model_31 rfl rfl) d_Model_isSpec_80 rfl ?_
          refine ev_iload d_Model_isSpec_83 rfl ?_
          refine mo_ald hT d_Model_isSpec_85 (by decide) i8 ?_
          refine ev_iconst (v := 2) d_Model_isSpec_86 (by decide) ?_
          rw [nI_clamp (by omega), (hW2.2.2.2 w1 w2 q2).1]
          refine ev_icmp_ne (tgt := 109) d_Model_isSpec_87 (by decide) (fun c_87 => ?_) (fun c_87 => ?_)
          · refine a109 _ ?_
            rw [hN2, ad_dom, if_neg c_87, List.length_cons]
            by_cases hx : ad_rE false (w2 :: nc (ad_sl W (w1 + 1) b)) = (nc (ad_sl W (w1 + 1) b)).length + 1
            · rw [decide_eq_true hx, decide_eq_true ⟨hx, by omega⟩]
            · rw [decide_eq_false hx, decide_eq_false (fun z => hx z.1)]
          · rw [hN2, ad_dom, if_pos c_87] at done
            refine ev_aload_n d_Model_isSpec_90 rfl rfl ?_
            refine ev_iload d_Model_isSpec_91 rfl ?_
            refine ev_iconst (v := 1) d_Model_isSpec_93 (by decide) ?_
            refine ev_iadd d_Model_isSpec_94 ?_
            rw [nI_1]
            refine ev_iload_n d_Model_isSpec_95 rfl rfl ?_
            refine mo_Vv [.int (nI (w1 + 1)), .int (nI b)] [] ca_Model_isSpec_197 d_Model_isSpec_96 rfl (Nat.le_of_ble_eq_true rfl) (c_Model_next hT hW2 hl hbW (by omega)) ?_
            have hn5 := nx_le W (a := w1 + 1) (b := b) (by omega) hbW
            refine ev_iload_n d_Model_isSpec_99 rfl rfl ?_
            by_cases hq : nx W (w1 + 1) b = b
            · refine ev_icmp_ne (tgt := 107) d_Model_isSpec_100 (by decide) (fun z => absurd (by rw [hq]) z) (fun _ => ?_)
              rw [(nx_iff (a := w1 + 1) (by omega) hbW).mp hq] at done
              refine ev_iconst (v := 1) d_Model_isSpec_103 (by decide) ?_
              refine ev_goto (tgt := 108) d_Model_isSpec_104 (by decide) ?_
              refine ev_zret d_Model_isSpec_108 rfl rfl ?_
              exact done
            · refine ev_icmp_ne (tgt := 107) d_Model_isSpec_100 (by decide) (fun _ => ?_) (fun z => absurd ((nI_eq (by omega) (by omega)).mp z) hq)
              cases hx : nc (ad_sl W (w1 + 1) b) with
              | nil => exact absurd ((nx_iff (a := w1 + 1) (by omega) hbW).mpr hx) hq
              | cons y t =>
                rw [hx] at done
                refine ev_iconst (v := 0) d_Model_isSpec_107 (by decide) ?_
                refine ev_zret d_Model_isSpec_108 rfl rfl ?_
                exact done
        · have hN2 := nx_no (a := k + 1) (by omega) hbW hwb
          refine ev_icmp_ge (tgt := 109) d_Model_isSpec_76 (by decide) (fun _ => ?_) (fun z => absurd (nI_le (by omega) (by omega)) z)
          exact a109 _ (by rw [hN2]; rfl)
    · have hN := nx_no he2 hbW hkb
      have hk : nx W e b = b := by omega
      refine ev_icmp_ne (tgt := 43) d_Model_isSpec_38 (by decide) (fun z => absurd (by rw [hk]) z) (fun _ => ?_)
      have hsp : ad_spc (nc (ad_sl W a b)) = some (ad_rE true (nc (ad_sl W a b))) := by
        unfold ad_spc
        rw [if_neg hz, ← he4, hN]
      refine ev_iconst (v := 1) d_Model_isSpec_41 (by decide) ?_
      refine ev_zret d_Model_isSpec_42 rfl rfl ?_
      refine ⟨_, rfl, e, b, by rw [hsp]; rfl, rfl, fun n hn => ?_⟩
      rw [hsp] at hn
      cases hn
      refine ⟨by omega, he2, Nat.le_refl _, he3, ?_⟩
      rw [sl_nil (Nat.le_refl b)]
      have := congrArg (fun l => l.drop 1) (he4.symm.trans hN)
      simp only [List.drop_drop, List.drop_nil] at this
      rw [this]
      rfl
theorem k_Model_behindRoute (hT : (gl_t G)[0]? = some (cI, .int)) (hW : wOk W I R) (hl : W.length ≤ 1501) {a b : Nat} (hab : a ≤ b) (hbW : b ≤ W.length) : ∀ (n k j : Nat), b ≤ k + n → a ≤ k → k ≤ b → (k < b → ∀ w, W[k]? = some w → ¬ w.1 = 0) → nc (ad_sl W k b) = (nc (ad_sl W a b)).drop j → ad_rN (nc (ad_sl W a b)) = (ad_rN (nc (ad_sl W k b))).map (fun n => n + j) → ev_E G m_Model_behindRoute 7 [(0, .ref M), (1, .int (nI a)), (2, .int (nI b)), (3, .int (nI k))] [] (mo_ov cI cZ h0 M I R) (cr (fun v h' => (∃ e : Nat, v = .int (nI e) ∧ a ≤ e ∧ e ≤ b ∧ nc (ad_sl W e b) = ad_rt (nc (ad_sl W a b))) ∧ h' = mo_ov cI cZ h0 M I R)) := by
  intro n
  induction n with
  | zero =>
    intro k j hk hak hkb hnc hj hr
    rw [sl_nil (show b ≤ k by omega), show nc [] = [] from rfl, ad_rN] at hr
    refine ev_iload_n d_Model_behindRoute_7 rfl rfl ?_
    refine ev_iload_n d_Model_behindRoute_8 rfl rfl ?_
    refine ev_icmp_ge (tgt := 80) d_Model_behindRoute_9 (by decide) (fun _ => ?_) (fun z => absurd (nI_le (by omega) (by omega)) z)
    refine ev_iload_n d_Model_behindRoute_80 rfl rfl ?_
    refine ev_iret d_Model_behindRoute_81 rfl ?_
    exact ⟨_, rfl, ⟨a, rfl, Nat.le_refl _, hab, by unfold ad_rt; rw [hr]; rfl⟩, rfl⟩
  | succ n ih =>
    intro k j hk hak hkb hnc hj hr
    refine ev_iload_n d_Model_behindRoute_7 rfl rfl ?_
    refine ev_iload_n d_Model_behindRoute_8 rfl rfl ?_
    refine ev_icmp_ge (tgt := 80) d_Model_behindRoute_9 (by decide) (fun c_9 => ?_) (fun c_9 => ?_)
    · have := (nI_leI (by omega) (by omega)).mp c_9
      rw [sl_nil this, show nc [] = [] from rfl, ad_rN] at hr
      refine ev_iload_n d_Model_behindRoute_80 rfl rfl ?_
      refine ev_iret d_Model_behindRoute_81 rfl ?_
      exact ⟨_, rfl, ⟨a, rfl, Nat.le_refl _, hab, by unfold ad_rt; rw [hr]; rfl⟩, rfl⟩
    · have hlt := lt_of_nge (by omega) c_9
      have qk : W[k]? = some W[k] := List.getElem?_eq_getElem (by omega)
      generalize W[k] = wd at qk
      have i8 : vp_in (nI k) (mo_len 8) := vp_in_nI (show k < 1501 by omega) (by decide)
      have hn1 := nx_le W (a := k + 1) (b := b) (by omega) hbW
      have hn2 := nx_ge W (k + 1) b
      have hs2 := (nx_sl (W := W) (a := k + 1) (b := b) (by omega) hbW).2
      have hsl : nc (ad_sl W k b) = wd :: nc (ad_sl W (k + 1) b) := by
        rw [sl_step hlt hbW qk, nc_cons, if_neg (hnc hlt wd qk)]
      have hj1 : nc (ad_sl W (k + 1) b) = (nc (ad_sl W a b)).drop (j + 1) := by
        have := congrArg (fun l => l.drop 1) (hsl.symm.trans hj)
        simp only [List.drop_drop, List.drop_succ_cons, List.drop_zero] at this
        exact this
      have on : wIs wd 58 = false → (decide (wd.1 = 4) || (wIs wd 64 || (wIs wd 44 || wIs wd 46))) = true → ev_E G m_Model_behindRoute 68 [(0, .ref M), (1, .int (nI a)), (2, .int (nI b)), (3, .int (nI k))] [] (mo_ov cI cZ h0 M I R) (cr (fun v h' => (∃ e : Nat, v = .int (nI e) ∧ a ≤ e ∧ e ≤ b ∧ nc (ad_sl W e b) = ad_rt (nc (ad_sl W a b))) ∧ h' = mo_ov cI cZ h0 M I R)) := by
        intro h58 hrt
        rw [hsl, ad_rN, h58, hrt, cond_false, cond_true, Option.map_map] at hr
        refine ev_aload_n d_Model_behindRoute_68 rfl rfl ?_
        refine ev_iload_n d_Model_behindRoute_69 rfl rfl ?_
        refine ev_iconst (v := 1) d_Model_behindRoute_70 (by decide) ?_
        refine ev_iadd d_Model_behindRoute_71 ?_
        rw [nI_1]
        refine ev_iload_n d_Model_behindRoute_72 rfl rfl ?_
        refine mo_Vv [.int (nI (k + 1)), .int (nI b)] [] ca_Model_behindRoute_197 d_Model_behindRoute_73 rfl (Nat.le_of_ble_eq_true rfl) (c_Model_next hT hW hl hbW (by omega)) ?_
        refine ev_istore_n d_Model_behindRoute_76 rfl (by decide) ?_
        refine ev_goto (tgt := 7) d_Model_behindRoute_77 (by decide) ?_
        refine ih (nx W (k + 1) b) (j + 1) (by omega) (by omega) hn1 (fun h w hw => nx_nc h hw) (by rw [← hs2]; exact hj1) ?_
        rw [← hs2, hr]
        congr 1
        funext x
        show x + 1 + j = x + (j + 1)
        omega
      refine ev_aload_n d_Model_behindRoute_12 rfl rfl ?_
      refine ev_iload_n d_Model_behindRoute_13 rfl rfl ?_
      refine ev_bipush (v := 58) d_Model_behindRoute_14 (by decide) ?_
      refine mo_Vv [.int (nI k), .int 58] [] ca_Model_behindRoute_200 d_Model_behindRoute_16 rfl (Nat.le_of_ble_eq_true rfl) (c_Model_is hT hW hl qk 58) ?_
      cases h58 : wIs wd 58 with
      | false =>
        refine ev_if_eq (tgt := 26) d_Model_behindRoute_19 (by decide) (fun _ => ?_) (fun z => absurd rfl z)
        refine ev_aload_n d_Model_behindRoute_26 rfl rfl ?_
        refine mo_get (fa_Model_31 rfl rfl) d_Model_behindRoute_27 rfl ?_
        refine ev_iload_n d_Model_behindRoute_30 rfl rfl ?_
        refine mo_ald hT d_Model_behindRoute_31 (by decide) i8 ?_
        refine ev_iconst (v := 4) d_Model_behindRoute_32 (by decide) ?_
        rw [nI_clamp (by omega), (hW.2.2.2 k wd qk).1]
        refine ev_icmp_eq (tgt := 68) d_Model_behindRoute_33 (by decide) (fun c_33 => ?_) (fun c_33 => ?_)
        · exact on h58 (by simp [c_33])
        · refine ev_aload_n d_Model_behindRoute_36 rfl rfl ?_
          refine ev_iload_n d_Model_behindRoute_37 rfl rfl ?_
          refine ev_bipush (v := 64) d_Model_behindRoute_38 (by decide) ?_
          refine mo_Vv [.int (nI k), .int 64] [] ca_Model_behindRoute_200 d_Model_behindRoute_40 rfl (Nat.le_of_ble_eq_true rfl) (c_Model_is hT hW hl qk 64) ?_
          cases h64 : wIs wd 64 with
          | true =>
            refine ev_if_ne (tgt := 68) d_Model_behindRoute_43 (by decide) (fun _ => ?_) (fun z => absurd (show (1 : Int32) = 0 from z) (by decide))
            exact on h58 (by simp [h64])
          | false =>
            refine ev_if_ne (tgt := 68) d_Model_behindRoute_43 (by decide) (fun z => absurd rfl z) (fun _ => ?_)
            refine ev_aload_n d_Model_behindRoute_46 rfl rfl ?_
            refine ev_iload_n d_Model_behindRoute_47 rfl rfl ?_
            refine ev_bipush (v := 44) d_Model_behindRoute_48 (by decide) ?_
            refine mo_Vv [.int (nI k), .int 44] [] ca_Model_behindRoute_200 d_Model_behindRoute_50 rfl (Nat.le_of_ble_eq_true rfl) (c_Model_is hT hW hl qk 44) ?_
            cases h44 : wIs wd 44 with
            | true =>
              refine ev_if_ne (tgt := 68) d_Model_behindRoute_53 (by decide) (fun _ => ?_) (fun z => absurd (show (1 : Int32) = 0 from z) (by decide))
              exact on h58 (by simp [h44])
            | false =>
              refine ev_if_ne (tgt := 68) d_Model_behindRoute_53 (by decide) (fun z => absurd rfl z) (fun _ => ?_)
              refine ev_aload_n d_Model_behindRoute_56 rfl rfl ?_
              refine ev_iload_n d_Model_behindRoute_57 rfl rfl ?_
              refine ev_bipush (v := 46) d_Model_behindRoute_58 (by decide) ?_
              refine mo_Vv [.int (nI k), .int 46] [] ca_Model_behindRoute_200 d_Model_behindRoute_60 rfl (Nat.le_of_ble_eq_true rfl) (c_Model_is hT hW hl qk 46) ?_
              cases h46 : wIs wd 46 with
              | true =>
                refine ev_if_ne (tgt := 68) d_Model_behindRoute_63 (by decide) (fun _ => ?_) (fun z => absurd (show (1 : Int32) = 0 from z) (by decide))
                exact on h58 (by simp [h46])
              | false =>
                refine ev_if_ne (tgt := 68) d_Model_behindRoute_63 (by decide) (fun z => absurd rfl z) (fun _ => ?_)
                refine ev_iload_n d_Model_behindRoute_66 rfl rfl ?_
                refine ev_iret d_Model_behindRoute_67 rfl ?_
                have hq : (decide (wd.1 = 4) || (wIs wd 64 || (wIs wd 44 || wIs wd 46))) = false := by simp [c_33, h64, h44, h46]
                rw [hsl, ad_rN, h58, hq] at hr
                exact ⟨_, rfl, ⟨a, rfl, Nat.le_refl _, hab, by unfold ad_rt; rw [hr]; rfl⟩, rfl⟩
      | true =>
        refine ev_if_eq (tgt := 26) d_Model_behindRoute_19 (by decide) (fun z => absurd (show (1 : Int32) = 0 from z) (by decide)) (fun _ => ?_)
        refine ev_iload_n d_Model_behindRoute_22 rfl rfl ?_
        refine ev_iconst (v := 1) d_Model_behindRoute_23 (by decide) ?_
        refine ev_iadd d_Model_behindRoute_24 ?_
        rw [nI_1]
        refine ev_iret d_Model_behindRoute_25 rfl ?_
        refine ⟨_, rfl, ⟨k + 1, rfl, by omega, by omega, ?_⟩, rfl⟩
        rw [hsl, ad_rN, h58] at hr
        unfold ad_rt
        rw [hr, hj1]
        show _ = List.drop (1 + j) _
        rw [Nat.add_comm]
theorem s_Model_behindRoute (hT : (gl_t G)[0]? = some (cI, .int)) (hW : wOk W I R) (hl : W.length ≤ 1501) {a b : Nat} (hab : a ≤ b) (hbW : b ≤ W.length) : ct_E G m_Model_behindRoute [.ref M, .int (nI a), .int (nI b)] (mo_ov cI cZ h0 M I R) (cr (fun v h' => (∃ e : Nat, v = .int (nI e) ∧ a ≤ e ∧ e ≤ b ∧ nc (ad_sl W e b) = ad_rt (nc (ad_sl W a b))) ∧ h' = mo_ov cI cZ h0 M I R)) := by
  have hnx := nx_le W hab hbW
  have hng := nx_ge W a b
  refine ct_of (ws' := tb_all) rfl rfl (Nat.le_of_ble_eq_true rfl) ?_
  refine ev_aload_n d_Model_behindRoute_0 rfl rfl ?_
  refine ev_iload_n d_Model_behindRoute_1 rfl rfl ?_
  refine ev_iload_n d_Model_behindRoute_2 rfl rfl ?_
  refine mo_Vv [.int (nI a), .int (nI b)] [] ca_Model_behindRoute_197 d_Model_behindRoute_3 rfl (Nat.le_of_ble_eq_true rfl) (c_Model_next hT hW hl hbW (by omega)) ?_
  refine ev_istore_n d_Model_behindRoute_6 rfl (by decide) ?_
  refine k_Model_behindRoute hT hW hl hab hbW (b - nx W a b) (nx W a b) 0 (by omega) hng hnx (fun h w hw => nx_nc h hw) (by rw [← (nx_sl hab hbW).2]; rfl) ?_
  rw [← (nx_sl hab hbW).2]
  cases ad_rN (nc (ad_sl W a b)) <;> rfl
end ADS2
