section DREF2
variable {G : gl_G} {cI cZ : ClassId} {h0 : hp_T} {M : Nat} {I : Nat → Int32} {R : Nat → Nat → Int32} {W : Wds}
theorem th3_short {l : List Int32} {a b c : Int32} (hl : l.length < 3) (hc : ¬ c = -1) : th3 l a b c = false := by
  have e : rg l 2 = -1 := by
    rw [show (2 : Int32) = nI 2 from rfl, rg_nat (by decide), List.getD_eq_getElem?_getD, List.getElem?_eq_none (by omega)]
    rfl
  refine decide_eq_false (fun z => ?_)
  have := z.2.2
  rw [e] at this
  exact hc (this.symm.trans (by decide))
theorem fst3_short {l : List Int32} (hl : l.length < 3) : ∀ (t : List Int32) (j : Nat), (∀ c ∈ t, ¬ c = -1) → fst3 l t j = -1
  | [], _, _ => rfl
  | [_], _, _ => rfl
  | [_, _], _, _ => rfl
  | a :: b :: c :: t, j, h => by
    rw [fst3, if_neg (by rw [th3_short hl (h c (by simp))]; decide)]
    exact fst3_short hl t (j + 1) (fun x hx => h x (by simp [hx]))
theorem z_monthOf (hT : (gl_t G)[0]? = some (cI, .int)) (hW : wOk W I R) (hl : W.length ≤ 1501) (hb : (wB W).length ≤ 1501) {k : Nat} (hk : k ≤ 5000) : ct_E G m_Model_monthOf [.ref M, .int (nI k)] (mo_ov cI cZ h0 M I R) (cv (.int (mon W[k]? + 1)) (mo_ov cI cZ h0 M I R)) := by
  refine ct_of (ws' := tb_all) rfl rfl (Nat.le_of_ble_eq_true rfl) ?_
  have no : mon W[k]? = -1 → ev_E G m_Model_monthOf 27 [(0, .ref M), (1, .int (nI k))] [] (mo_ov cI cZ h0 M I R) (cv (.int (mon W[k]? + 1)) (mo_ov cI cZ h0 M I R)) := by
    intro q
    refine ev_iconst (v := 0) d_Model_monthOf_27 (by decide) ?_
    refine ev_iret d_Model_monthOf_28 rfl ?_
    rw [q]
    exact ⟨rfl, rfl⟩
  refine ev_iload_n d_Model_monthOf_0 rfl rfl ?_
  refine ev_aload_n d_Model_monthOf_1 rfl rfl ?_
  refine mo_get (fa_Model_149 rfl rfl) d_Model_monthOf_2 rfl ?_
  rw [hW.1]
  cases qk : W[k]? with
  | none =>
    have := List.getElem?_eq_none_iff.mp qk
    refine ev_icmp_ge (tgt := 27) d_Model_monthOf_5 (by decide) (fun _ => ?_) (fun z => absurd (nI_le this (by omega)) z)
    rw [qk] at no
    exact no rfl
  | some w =>
    have hlt := (List.getElem?_eq_some_iff.mp qk).1
    refine ev_icmp_ge (tgt := 27) d_Model_monthOf_5 (by decide) (fun z => absurd z (nI_ge hlt (by omega))) (fun _ => ?_)
    rw [qk] at no
    obtain ⟨r10, r11, rb, rh⟩ := wds_o hW qk
    have r8 := (hW.2.2.2 k w qk).1
    have i8 : vp_in (nI k) (mo_len 8) := vp_in_nI (show k < 1501 by omega) (by decide)
    refine ev_aload_n d_Model_monthOf_8 rfl rfl ?_
    refine mo_get (fa_Model_31 rfl rfl) d_Model_monthOf_9 rfl ?_
    refine ev_iload_n d_Model_monthOf_12 rfl rfl ?_
    refine mo_ald hT d_Model_monthOf_13 (by decide) i8 ?_
    refine ev_iconst (v := 4) d_Model_monthOf_14 (by decide) ?_
    rw [nI_clamp (by omega), r8]
    by_cases w4 : w.1 = 4
    rotate_left
    · refine ev_icmp_ne (tgt := 27) d_Model_monthOf_15 (by decide) (fun _ => ?_) (fun z => absurd z w4)
      exact no (if_neg w4)
    refine ev_icmp_ne (tgt := 27) d_Model_monthOf_15 (by decide) (fun z => absurd w4 z) (fun _ => ?_)
    have em : mon (some w) = fst3 w.2.2 moL 0 := if_pos w4
    refine ev_aload_n d_Model_monthOf_18 rfl rfl ?_
    refine ev_iload_n d_Model_monthOf_19 rfl rfl ?_
    refine mo_Vv [.int (nI k)] [] ca_Model_monthOf_268 d_Model_monthOf_20 rfl (Nat.le_of_ble_eq_true rfl) (c_Model_longOf hT hW hl qk) ?_
    refine ev_iconst (v := 3) d_Model_monthOf_23 (by decide) ?_
    by_cases h3 : 3 ≤ w.2.2.length
    rotate_left
    · refine ev_icmp_ge (tgt := 29) d_Model_monthOf_24 (by decide) (fun z => absurd (show nI 3 ≤ nI w.2.2.length from z) (nI_ge (Nat.lt_of_not_le h3) (by decide))) (fun _ => ?_)
      exact no (em.trans (fst3_short (Nat.lt_of_not_le h3) moL 0 (by decide)))
    refine ev_icmp_ge (tgt := 29) d_Model_monthOf_24 (by decide) (fun _ => ?_) (fun z => absurd (show nI 3 ≤ nI w.2.2.length from nI_le h3 (by omega)) z)
    rw [em]
    have i3 := fun y => z_isThree (G := G) (cI := cI) (cZ := cZ) (h0 := h0) (M := M) (I := I) (R := R) hT (show k < 1501 by omega) r10 h3 (by omega) (rh _ hW.2.2.1) y
    generalize w.2.2 = l at i3 ⊢
    unfold moL
    rw [fst3]
    refine ev_aload_n d_Model_monthOf_29 rfl rfl ?_
    refine ev_iload_n d_Model_monthOf_30 rfl rfl ?_
    refine ev_iconst (v := 0) d_Model_monthOf_31 (by decide) ?_
    refine ev_ldcw (v := 6971758) (List.mem_cons_of_mem _ tw_1280) d_Model_monthOf_32 ?_
    refine mo_Vv [.int (nI k), .int 0, .int _] [] ca_Model_monthOf_279 d_Model_monthOf_35 rfl (Nat.le_of_ble_eq_true rfl) (i3 _) ?_
    rw [show lt3 6971758 0 = 106 from by decide, show lt3 6971758 1 = 97 from by decide, show lt3 6971758 2 = 110 from by decide]
    cases t0 : th3 l 106 97 110 with
    | true =>
      refine ev_if_eq (tgt := 43) d_Model_monthOf_38 (by decide) (fun z => absurd z (by decide)) (fun _ => ?_)
      refine ev_iconst (v := 1) d_Model_monthOf_41 (by decide) ?_
      refine ev_iret d_Model_monthOf_42 rfl ?_
      exact ⟨rfl, rfl⟩
    | false =>
    refine ev_if_eq (tgt := 43) d_Model_monthOf_38 (by decide) (fun _ => ?_) (fun z => absurd rfl z)
    rw [if_neg (by decide)]
    rw [fst3]
    refine ev_aload_n d_Model_monthOf_43 rfl rfl ?_
    refine ev_iload_n d_Model_monthOf_44 rfl rfl ?_
    refine ev_iconst (v := 0) d_Model_monthOf_45 (by decide) ?_
    refine ev_ldcw (v := 6710626) (List.mem_cons_of_mem _ tw_1285) d_Model_monthOf_46 ?_
    refine mo_Vv [.int (nI k), .int 0, .int _] [] ca_Model_monthOf_279 d_Model_monthOf_49 rfl (Nat.le_of_ble_eq_true rfl) (i3 _) ?_
    rw [show lt3 6710626 0 = 102 from by decide, show lt3 6710626 1 = 101 from by decide, show lt3 6710626 2 = 98 from by decide]
    cases t1 : th3 l 102 101 98 with
    | true =>
      refine ev_if_eq (tgt := 57) d_Model_monthOf_52 (by decide) (fun z => absurd z (by decide)) (fun _ => ?_)
      refine ev_iconst (v := 2) d_Model_monthOf_55 (by decide) ?_
      refine ev_iret d_Model_monthOf_56 rfl ?_
      exact ⟨rfl, rfl⟩
    | false =>
    refine ev_if_eq (tgt := 57) d_Model_monthOf_52 (by decide) (fun _ => ?_) (fun z => absurd rfl z)
    rw [if_neg (by decide)]
    rw [fst3]
    refine ev_aload_n d_Model_monthOf_57 rfl rfl ?_
    refine ev_iload_n d_Model_monthOf_58 rfl rfl ?_
    refine ev_iconst (v := 0) d_Model_monthOf_59 (by decide) ?_
    refine ev_ldcw (v := 7168370) (List.mem_cons_of_mem _ tw_1286) d_Model_monthOf_60 ?_
    refine mo_Vv [.int (nI k), .int 0, .int _] [] ca_Model_monthOf_279 d_Model_monthOf_63 rfl (Nat.le_of_ble_eq_true rfl) (i3 _) ?_
    rw [show lt3 7168370 0 = 109 from by decide, show lt3 7168370 1 = 97 from by decide, show lt3 7168370 2 = 114 from by decide]
    cases t2 : th3 l 109 97 114 with
    | true =>
      refine ev_if_eq (tgt := 71) d_Model_monthOf_66 (by decide) (fun z => absurd z (by decide)) (fun _ => ?_)
      refine ev_iconst (v := 3) d_Model_monthOf_69 (by decide) ?_
      refine ev_iret d_Model_monthOf_70 rfl ?_
      exact ⟨rfl, rfl⟩
    | false =>
    refine ev_if_eq (tgt := 71) d_Model_monthOf_66 (by decide) (fun _ => ?_) (fun z => absurd rfl z)
    rw [if_neg (by decide)]
    rw [fst3]
    refine ev_aload_n d_Model_monthOf_71 rfl rfl ?_
    refine ev_iload_n d_Model_monthOf_72 rfl rfl ?_
    refine ev_iconst (v := 0) d_Model_monthOf_73 (by decide) ?_
    refine ev_ldcw (v := 6385778) (List.mem_cons_of_mem _ tw_1287) d_Model_monthOf_74 ?_
    refine mo_Vv [.int (nI k), .int 0, .int _] [] ca_Model_monthOf_279 d_Model_monthOf_77 rfl (Nat.le_of_ble_eq_true rfl) (i3 _) ?_
    rw [show lt3 6385778 0 = 97 from by decide, show lt3 6385778 1 = 112 from by decide, show lt3 6385778 2 = 114 from by decide]
    cases t3 : th3 l 97 112 114 with
    | true =>
      refine ev_if_eq (tgt := 85) d_Model_monthOf_80 (by decide) (fun z => absurd z (by decide)) (fun _ => ?_)
      refine ev_iconst (v := 4) d_Model_monthOf_83 (by decide) ?_
      refine ev_iret d_Model_monthOf_84 rfl ?_
      exact ⟨rfl, rfl⟩
    | false =>
    refine ev_if_eq (tgt := 85) d_Model_monthOf_80 (by decide) (fun _ => ?_) (fun z => absurd rfl z)
    rw [if_neg (by decide)]
    rw [fst3]
    refine ev_aload_n d_Model_monthOf_85 rfl rfl ?_
    refine ev_iload_n d_Model_monthOf_86 rfl rfl ?_
    refine ev_iconst (v := 0) d_Model_monthOf_87 (by decide) ?_
    refine ev_ldcw (v := 7168377) (List.mem_cons_of_mem _ tw_1288) d_Model_monthOf_88 ?_
    refine mo_Vv [.int (nI k), .int 0, .int _] [] ca_Model_monthOf_279 d_Model_monthOf_91 rfl (Nat.le_of_ble_eq_true rfl) (i3 _) ?_
    rw [show lt3 7168377 0 = 109 from by decide, show lt3 7168377 1 = 97 from by decide, show lt3 7168377 2 = 121 from by decide]
    cases t4 : th3 l 109 97 121 with
    | true =>
      refine ev_if_eq (tgt := 99) d_Model_monthOf_94 (by decide) (fun z => absurd z (by decide)) (fun _ => ?_)
      refine ev_iconst (v := 5) d_Model_monthOf_97 (by decide) ?_
      refine ev_iret d_Model_monthOf_98 rfl ?_
      exact ⟨rfl, rfl⟩
    | false =>
    refine ev_if_eq (tgt := 99) d_Model_monthOf_94 (by decide) (fun _ => ?_) (fun z => absurd rfl z)
    rw [if_neg (by decide)]
    rw [fst3]
    refine ev_aload_n d_Model_monthOf_99 rfl rfl ?_
    refine ev_iload_n d_Model_monthOf_100 rfl rfl ?_
    refine ev_iconst (v := 0) d_Model_monthOf_101 (by decide) ?_
    refine ev_ldcw (v := 6976878) (List.mem_cons_of_mem _ tw_1289) d_Model_monthOf_102 ?_
    refine mo_Vv [.int (nI k), .int 0, .int _] [] ca_Model_monthOf_279 d_Model_monthOf_105 rfl (Nat.le_of_ble_eq_true rfl) (i3 _) ?_
    rw [show lt3 6976878 0 = 106 from by decide, show lt3 6976878 1 = 117 from by decide, show lt3 6976878 2 = 110 from by decide]
    cases t5 : th3 l 106 117 110 with
    | true =>
      refine ev_if_eq (tgt := 114) d_Model_monthOf_108 (by decide) (fun z => absurd z (by decide)) (fun _ => ?_)
      refine ev_bipush (v := 6) d_Model_monthOf_111 (by decide) ?_
      refine ev_iret d_Model_monthOf_113 rfl ?_
      exact ⟨rfl, rfl⟩
    | false =>
    refine ev_if_eq (tgt := 114) d_Model_monthOf_108 (by decide) (fun _ => ?_) (fun z => absurd rfl z)
    rw [if_neg (by decide)]
    rw [fst3]
    refine ev_aload_n d_Model_monthOf_114 rfl rfl ?_
    refine ev_iload_n d_Model_monthOf_115 rfl rfl ?_
    refine ev_iconst (v := 0) d_Model_monthOf_116 (by decide) ?_
    refine ev_ldcw (v := 6976876) (List.mem_cons_of_mem _ tw_1290) d_Model_monthOf_117 ?_
    refine mo_Vv [.int (nI k), .int 0, .int _] [] ca_Model_monthOf_279 d_Model_monthOf_120 rfl (Nat.le_of_ble_eq_true rfl) (i3 _) ?_
    rw [show lt3 6976876 0 = 106 from by decide, show lt3 6976876 1 = 117 from by decide, show lt3 6976876 2 = 108 from by decide]
    cases t6 : th3 l 106 117 108 with
    | true =>
      refine ev_if_eq (tgt := 129) d_Model_monthOf_123 (by decide) (fun z => absurd z (by decide)) (fun _ => ?_)
      refine ev_bipush (v := 7) d_Model_monthOf_126 (by decide) ?_
      refine ev_iret d_Model_monthOf_128 rfl ?_
      exact ⟨rfl, rfl⟩
    | false =>
    refine ev_if_eq (tgt := 129) d_Model_monthOf_123 (by decide) (fun _ => ?_) (fun z => absurd rfl z)
    rw [if_neg (by decide)]
    rw [fst3]
    refine ev_aload_n d_Model_monthOf_129 rfl rfl ?_
    refine ev_iload_n d_Model_monthOf_130 rfl rfl ?_
    refine ev_iconst (v := 0) d_Model_monthOf_131 (by decide) ?_
    refine ev_ldcw (v := 6387047) (List.mem_cons_of_mem _ tw_1291) d_Model_monthOf_132 ?_
    refine mo_Vv [.int (nI k), .int 0, .int _] [] ca_Model_monthOf_279 d_Model_monthOf_135 rfl (Nat.le_of_ble_eq_true rfl) (i3 _) ?_
    rw [show lt3 6387047 0 = 97 from by decide, show lt3 6387047 1 = 117 from by decide, show lt3 6387047 2 = 103 from by decide]
    cases t7 : th3 l 97 117 103 with
    | true =>
      refine ev_if_eq (tgt := 144) d_Model_monthOf_138 (by decide) (fun z => absurd z (by decide)) (fun _ => ?_)
      refine ev_bipush (v := 8) d_Model_monthOf_141 (by decide) ?_
      refine ev_iret d_Model_monthOf_143 rfl ?_
      exact ⟨rfl, rfl⟩
    | false =>
    refine ev_if_eq (tgt := 144) d_Model_monthOf_138 (by decide) (fun _ => ?_) (fun z => absurd rfl z)
    rw [if_neg (by decide)]
    rw [fst3]
    refine ev_aload_n d_Model_monthOf_144 rfl rfl ?_
    refine ev_iload_n d_Model_monthOf_145 rfl rfl ?_
    refine ev_iconst (v := 0) d_Model_monthOf_146 (by decide) ?_
    refine ev_ldcw (v := 7562608) (List.mem_cons_of_mem _ tw_1292) d_Model_monthOf_147 ?_
    refine mo_Vv [.int (nI k), .int 0, .int _] [] ca_Model_monthOf_279 d_Model_monthOf_150 rfl (Nat.le_of_ble_eq_true rfl) (i3 _) ?_
    rw [show lt3 7562608 0 = 115 from by decide, show lt3 7562608 1 = 101 from by decide, show lt3 7562608 2 = 112 from by decide]
    cases t8 : th3 l 115 101 112 with
    | true =>
      refine ev_if_eq (tgt := 159) d_Model_monthOf_153 (by decide) (fun z => absurd z (by decide)) (fun _ => ?_)
      refine ev_bipush (v := 9) d_Model_monthOf_156 (by decide) ?_
      refine ev_iret d_Model_monthOf_158 rfl ?_
      exact ⟨rfl, rfl⟩
    | false =>
    refine ev_if_eq (tgt := 159) d_Model_monthOf_153 (by decide) (fun _ => ?_) (fun z => absurd rfl z)
    rw [if_neg (by decide)]
    rw [fst3]
    refine ev_aload_n d_Model_monthOf_159 rfl rfl ?_
    refine ev_iload_n d_Model_monthOf_160 rfl rfl ?_
    refine ev_iconst (v := 0) d_Model_monthOf_161 (by decide) ?_
    refine ev_ldcw (v := 7299956) (List.mem_cons_of_mem _ tw_1293) d_Model_monthOf_162 ?_
    refine mo_Vv [.int (nI k), .int 0, .int _] [] ca_Model_monthOf_279 d_Model_monthOf_165 rfl (Nat.le_of_ble_eq_true rfl) (i3 _) ?_
    rw [show lt3 7299956 0 = 111 from by decide, show lt3 7299956 1 = 99 from by decide, show lt3 7299956 2 = 116 from by decide]
    cases t9 : th3 l 111 99 116 with
    | true =>
      refine ev_if_eq (tgt := 174) d_Model_monthOf_168 (by decide) (fun z => absurd z (by decide)) (fun _ => ?_)
      refine ev_bipush (v := 10) d_Model_monthOf_171 (by decide) ?_
      refine ev_iret d_Model_monthOf_173 rfl ?_
      exact ⟨rfl, rfl⟩
    | false =>
    refine ev_if_eq (tgt := 174) d_Model_monthOf_168 (by decide) (fun _ => ?_) (fun z => absurd rfl z)
    rw [if_neg (by decide)]
    rw [fst3]
    refine ev_aload_n d_Model_monthOf_174 rfl rfl ?_
    refine ev_iload_n d_Model_monthOf_175 rfl rfl ?_
    refine ev_iconst (v := 0) d_Model_monthOf_176 (by decide) ?_
    refine ev_ldcw (v := 7237494) (List.mem_cons_of_mem _ tw_1294) d_Model_monthOf_177 ?_
    refine mo_Vv [.int (nI k), .int 0, .int _] [] ca_Model_monthOf_279 d_Model_monthOf_180 rfl (Nat.le_of_ble_eq_true rfl) (i3 _) ?_
    rw [show lt3 7237494 0 = 110 from by decide, show lt3 7237494 1 = 111 from by decide, show lt3 7237494 2 = 118 from by decide]
    cases t10 : th3 l 110 111 118 with
    | true =>
      refine ev_if_eq (tgt := 189) d_Model_monthOf_183 (by decide) (fun z => absurd z (by decide)) (fun _ => ?_)
      refine ev_bipush (v := 11) d_Model_monthOf_186 (by decide) ?_
      refine ev_iret d_Model_monthOf_188 rfl ?_
      exact ⟨rfl, rfl⟩
    | false =>
    refine ev_if_eq (tgt := 189) d_Model_monthOf_183 (by decide) (fun _ => ?_) (fun z => absurd rfl z)
    rw [if_neg (by decide)]
    rw [fst3]
    refine ev_aload_n d_Model_monthOf_189 rfl rfl ?_
    refine ev_iload_n d_Model_monthOf_190 rfl rfl ?_
    refine ev_iconst (v := 0) d_Model_monthOf_191 (by decide) ?_
    refine ev_ldcw (v := 6579555) (List.mem_cons_of_mem _ tw_1295) d_Model_monthOf_192 ?_
    refine mo_Vv [.int (nI k), .int 0, .int _] [] ca_Model_monthOf_279 d_Model_monthOf_195 rfl (Nat.le_of_ble_eq_true rfl) (i3 _) ?_
    rw [show lt3 6579555 0 = 100 from by decide, show lt3 6579555 1 = 101 from by decide, show lt3 6579555 2 = 99 from by decide]
    cases t11 : th3 l 100 101 99 with
    | true =>
      refine ev_if_eq (tgt := 206) d_Model_monthOf_198 (by decide) (fun z => absurd z (by decide)) (fun _ => ?_)
      refine ev_bipush (v := 12) d_Model_monthOf_201 (by decide) ?_
      refine ev_goto (tgt := 207) d_Model_monthOf_203 (by decide) ?_
      refine ev_iret d_Model_monthOf_207 rfl ?_
      exact ⟨rfl, rfl⟩
    | false =>
    refine ev_if_eq (tgt := 206) d_Model_monthOf_198 (by decide) (fun _ => ?_) (fun z => absurd rfl z)
    rw [if_neg (by decide)]
    refine ev_iconst (v := 0) d_Model_monthOf_206 (by decide) ?_
    refine ev_iret d_Model_monthOf_207 rfl ?_
    exact ⟨by rw [show ∀ n, fst3 l [] n = -1 from fun _ => rfl, show (-1 : Int32) + 1 = 0 by decide], rfl⟩
def yrR (o : Option Wd) : Int32 := match o with
  | none => -1
  | some w => if (num 2 9 (some w)).isSome = true then nI (yrN w.2.2 (nmR w.2.2 0)) else -1
theorem z_yearOf (hT : (gl_t G)[0]? = some (cI, .int)) (hW : wOk W I R) (hl : W.length ≤ 1501) (hb : (wB W).length ≤ 1501) {k : Nat} (hk : k ≤ 5000) : ct_E G m_Model_yearOf [.ref M, .int (nI k)] (mo_ov cI cZ h0 M I R) (cv (.int (yrR W[k]?)) (mo_ov cI cZ h0 M I R)) := by
  refine ct_of (ws' := tb_all) rfl rfl (Nat.le_of_ble_eq_true rfl) ?_
  refine ev_aload_n d_Model_yearOf_0 rfl rfl ?_
  refine ev_iload_n d_Model_yearOf_1 rfl rfl ?_
  refine ev_iconst (v := 2) d_Model_yearOf_2 (by decide) ?_
  refine ev_bipush (v := 9) d_Model_yearOf_3 (by decide) ?_
  refine mo_Vv [.int (nI k), .int (nI 2), .int (nI 9)] [] ca_Model_yearOf_294 d_Model_yearOf_5 rfl (Nat.le_of_ble_eq_true rfl) (z_isDigits hT hW hl hb hk (a := 2) (b := 9) (by decide) (by decide)) ?_
  cases hn : num 2 9 W[k]? with
  | none =>
    refine ev_if_ne (tgt := 13) d_Model_yearOf_8 (by decide) (fun z => absurd rfl z) (fun _ => ?_)
    refine ev_iconst (v := (-1)) d_Model_yearOf_11 (by decide) ?_
    refine ev_iret d_Model_yearOf_12 rfl ?_
    have e : yrR W[k]? = -1 := by
      cases qk : W[k]? with
      | none => rfl
      | some w => rw [qk] at hn; exact if_neg (by rw [hn]; decide)
    rw [e]
    exact ⟨rfl, rfl⟩
  | some x =>
    refine ev_if_ne (tgt := 13) d_Model_yearOf_8 (by decide) (fun _ => ?_) (fun z => absurd (show (1 : Int32) = 0 from z) (by decide))
    cases qk : W[k]? with
    | none => rw [qk] at hn; cases hn
    | some w =>
      rw [qk] at hn
      have hd : w.2.2.length ≤ 9 ∧ dgs w.2.2 = true := by
        unfold num at hn
        simp only at hn
        split at hn
        · rename_i q; exact ⟨q.2.2.1, q.2.2.2⟩
        · cases hn
      rw [show yrR (some w) = nI (yrN w.2.2 (nmR w.2.2 0)) from if_pos (by rw [hn]; rfl)]
      have hx := nmR_le w.2.2 0 hd.2 (by decide)
      refine ev_aload_n d_Model_yearOf_13 rfl rfl ?_
      refine ev_iload_n d_Model_yearOf_14 rfl rfl ?_
      refine mo_Vv [.int (nI k)] [] ca_Model_yearOf_297 d_Model_yearOf_15 rfl (Nat.le_of_ble_eq_true rfl) (z_number hT hW hl hb qk hd.2) ?_
      refine ev_istore_n d_Model_yearOf_18 rfl (by decide) ?_
      refine ev_aload_n d_Model_yearOf_19 rfl rfl ?_
      refine ev_iload_n d_Model_yearOf_20 rfl rfl ?_
      refine mo_Vv [.int (nI k)] [] ca_Model_yearOf_268 d_Model_yearOf_21 rfl (Nat.le_of_ble_eq_true rfl) (c_Model_longOf hT hW hl qk) ?_
      generalize nmR w.2.2 0 = x at hx ⊢
      have hl9 := hd.1
      generalize w.2.2 = l at hl9 ⊢
      refine ev_istore_n d_Model_yearOf_24 rfl (by decide) ?_
      refine ev_iload_n d_Model_yearOf_25 rfl rfl ?_
      refine ev_iconst (v := 2) d_Model_yearOf_26 (by decide) ?_
      by_cases q2 : l.length = 2
      · refine ev_icmp_ne (tgt := 52) d_Model_yearOf_27 (by decide) (fun z => absurd (show nI l.length = nI 2 by rw [q2]) z) (fun _ => ?_)
        refine ev_iload_n d_Model_yearOf_30 rfl rfl ?_
        refine ev_bipush (v := 50) d_Model_yearOf_31 (by decide) ?_
        by_cases q5 : x < 50
        · refine ev_icmp_ge (tgt := 44) d_Model_yearOf_33 (by decide) (fun z => absurd z (show ¬ nI 50 ≤ nI x from nI_ge q5 (by decide))) (fun _ => ?_)
          refine ev_sipush (v := 2000) d_Model_yearOf_36 (by decide) ?_
          refine ev_iload_n d_Model_yearOf_39 rfl rfl ?_
          refine ev_iadd d_Model_yearOf_40 ?_
          refine ev_goto (tgt := 66) d_Model_yearOf_41 (by decide) ?_
          refine ev_iret d_Model_yearOf_66 rfl ?_
          rw [show yrN l x = 2000 + x from (if_pos q2).trans (if_pos q5), ← nI_add]
          exact ⟨rfl, rfl⟩
        · refine ev_icmp_ge (tgt := 44) d_Model_yearOf_33 (by decide) (fun _ => ?_) (fun z => absurd (show nI 50 ≤ nI x from nI_le (by omega) (by omega)) z)
          refine ev_sipush (v := 1900) d_Model_yearOf_44 (by decide) ?_
          refine ev_iload_n d_Model_yearOf_47 rfl rfl ?_
          refine ev_iadd d_Model_yearOf_48 ?_
          refine ev_goto (tgt := 66) d_Model_yearOf_49 (by decide) ?_
          refine ev_iret d_Model_yearOf_66 rfl ?_
          rw [show yrN l x = 1900 + x from (if_pos q2).trans (if_neg q5), ← nI_add]
          exact ⟨rfl, rfl⟩
      · refine ev_icmp_ne (tgt := 52) d_Model_yearOf_27 (by decide) (fun _ => ?_) (fun z => absurd ((nI_eq (by omega) (by decide)).mp (show nI l.length = nI 2 from z)) q2)
        refine ev_iload_n d_Model_yearOf_52 rfl rfl ?_
        refine ev_iconst (v := 3) d_Model_yearOf_53 (by decide) ?_
        by_cases q3 : l.length = 3
        · refine ev_icmp_ne (tgt := 65) d_Model_yearOf_54 (by decide) (fun z => absurd (show nI l.length = nI 3 by rw [q3]) z) (fun _ => ?_)
          refine ev_sipush (v := 1900) d_Model_yearOf_57 (by decide) ?_
          refine ev_iload_n d_Model_yearOf_60 rfl rfl ?_
          refine ev_iadd d_Model_yearOf_61 ?_
          refine ev_goto (tgt := 66) d_Model_yearOf_62 (by decide) ?_
          refine ev_iret d_Model_yearOf_66 rfl ?_
          rw [show yrN l x = 1900 + x from (if_neg q2).trans (if_pos q3), ← nI_add]
          exact ⟨rfl, rfl⟩
        · refine ev_icmp_ne (tgt := 65) d_Model_yearOf_54 (by decide) (fun _ => ?_) (fun z => absurd ((nI_eq (by omega) (by decide)).mp (show nI l.length = nI 3 from z)) q3)
          refine ev_iload_n d_Model_yearOf_65 rfl rfl ?_
          refine ev_iret d_Model_yearOf_66 rfl ?_
          rw [show yrN l x = x from (if_neg q2).trans (if_neg q3)]
          exact ⟨rfl, rfl⟩
def two (b : Nat) (o : Option Wd) : Int32 := match num 2 2 o with
  | none => -1
  | some x => if x < b then nI x else -1
theorem z_two (hT : (gl_t G)[0]? = some (cI, .int)) (hW : wOk W I R) (hl : W.length ≤ 1501) (hb : (wB W).length ≤ 1501) {w : Nat} (hw : I 44 = nI w) (hw2 : w ≤ 5000) {b : Nat} (hb9 : b < 2 ^ 30) : ct_E G m_Model_two [.ref M, .int (nI b)] (mo_ov cI cZ h0 M I R) (cv (.int (two b W[w]?)) (mo_ov cI cZ h0 M I R)) := by
  refine ct_of (ws' := tb_all) rfl rfl (Nat.le_of_ble_eq_true rfl) ?_
  refine ev_aload_n d_Model_two_0 rfl rfl ?_
  refine ev_aload_n d_Model_two_1 rfl rfl ?_
  refine mo_get (fa_Model_265 rfl rfl) d_Model_two_2 rfl ?_
  rw [hw]
  refine ev_iconst (v := 2) d_Model_two_5 (by decide) ?_
  refine ev_iconst (v := 2) d_Model_two_6 (by decide) ?_
  refine mo_Vv [.int (nI w), .int (nI 2), .int (nI 2)] [] ca_Model_two_294 d_Model_two_7 rfl (Nat.le_of_ble_eq_true rfl) (z_isDigits hT hW hl hb hw2 (a := 2) (b := 2) (by decide) (by decide)) ?_
  unfold two
  cases hn : num 2 2 W[w]? with
  | none =>
    refine ev_if_eq (tgt := 24) d_Model_two_10 (by decide) (fun _ => ?_) (fun z => absurd rfl z)
    refine ev_iconst (v := (-1)) d_Model_two_24 (by decide) ?_
    refine ev_istore_n d_Model_two_25 rfl (by decide) ?_
    refine ev_iload_n d_Model_two_26 rfl rfl ?_
    refine ev_iload_n d_Model_two_27 rfl rfl ?_
    refine ev_icmp_ge (tgt := 35) d_Model_two_28 (by decide) (fun _ => ?_) (fun _ => ?_)
    · refine ev_iconst (v := (-1)) d_Model_two_35 (by decide) ?_
      refine ev_iret d_Model_two_36 rfl ?_
      exact ⟨rfl, rfl⟩
    · refine ev_iload_n d_Model_two_31 rfl rfl ?_
      refine ev_goto (tgt := 36) d_Model_two_32 (by decide) ?_
      refine ev_iret d_Model_two_36 rfl ?_
      exact ⟨rfl, rfl⟩
  | some x =>
    refine ev_if_eq (tgt := 24) d_Model_two_10 (by decide) (fun z => absurd (show (1 : Int32) = 0 from z) (by decide)) (fun _ => ?_)
    obtain ⟨wd, qk, hd, e⟩ : ∃ wd : Wd, W[w]? = some wd ∧ dgs wd.2.2 = true ∧ nmR wd.2.2 0 = x := by
      cases qk : W[w]? with
      | none => rw [qk] at hn; cases hn
      | some wd =>
        rw [qk] at hn
        unfold num at hn
        simp only at hn
        split at hn
        · rename_i q
          cases hn
          exact ⟨wd, rfl, q.2.2.2, nmR_four q.2.2.2 (by omega)⟩
        · cases hn
    have hx := nmR_le wd.2.2 0 hd (by decide)
    rw [e] at hx
    refine ev_aload_n d_Model_two_13 rfl rfl ?_
    refine ev_aload_n d_Model_two_14 rfl rfl ?_
    refine mo_get (fa_Model_265 rfl rfl) d_Model_two_15 rfl ?_
    rw [hw]
    refine mo_Vv [.int (nI w)] [] ca_Model_two_297 d_Model_two_18 rfl (Nat.le_of_ble_eq_true rfl) (z_number hT hW hl hb qk hd) ?_
    rw [e]
    refine ev_goto (tgt := 25) d_Model_two_21 (by decide) ?_
    refine ev_istore_n d_Model_two_25 rfl (by decide) ?_
    refine ev_iload_n d_Model_two_26 rfl rfl ?_
    refine ev_iload_n d_Model_two_27 rfl rfl ?_
    by_cases q : x < b
    · refine ev_icmp_ge (tgt := 35) d_Model_two_28 (by decide) (fun z => absurd z (nI_ge q (by omega))) (fun _ => ?_)
      refine ev_iload_n d_Model_two_31 rfl rfl ?_
      refine ev_goto (tgt := 36) d_Model_two_32 (by decide) ?_
      refine ev_iret d_Model_two_36 rfl ?_
      simp only
      rw [if_pos q]
      exact ⟨rfl, rfl⟩
    · refine ev_icmp_ge (tgt := 35) d_Model_two_28 (by decide) (fun _ => ?_) (fun z => absurd (nI_le (by omega) (by omega)) z)
      refine ev_iconst (v := (-1)) d_Model_two_35 (by decide) ?_
      refine ev_iret d_Model_two_36 rfl ?_
      simp only
      rw [if_neg q]
      exact ⟨rfl, rfl⟩
theorem z_isLeap {h : hp_T} (y : Int32) : ct_E G m_Model_isLeap [.int y] h (cv (.int (bI (leap y))) h) := by
  refine ct_of (ws' := tb_all) rfl rfl (Nat.le_of_ble_eq_true rfl) ?_
  have no : leap y = false → ev_E G m_Model_isLeap 25 [(0, .int y)] [] h (cv (.int (bI (leap y))) h) := by
    intro q
    refine ev_iconst (v := 0) d_Model_isLeap_25 (by decide) ?_
    refine ev_zret d_Model_isLeap_26 rfl rfl ?_
    rw [q]
    exact ⟨rfl, rfl⟩
  have yes : leap y = true → ev_E G m_Model_isLeap 21 [(0, .int y)] [] h (cv (.int (bI (leap y))) h) := by
    intro q
    refine ev_iconst (v := 1) d_Model_isLeap_21 (by decide) ?_
    refine ev_goto (tgt := 26) d_Model_isLeap_22 (by decide) ?_
    refine ev_zret d_Model_isLeap_26 rfl rfl ?_
    rw [q]
    exact ⟨rfl, rfl⟩
  refine ev_iload_n d_Model_isLeap_0 rfl rfl ?_
  refine ev_iconst (v := 4) d_Model_isLeap_1 (by decide) ?_
  refine ev_irem d_Model_isLeap_2 (by decide) ?_
  refine ev_if_ne (tgt := 25) d_Model_isLeap_3 (by decide) (fun c_3 => ?_) (fun c_3 => ?_)
  · exact no (decide_eq_false (fun z => c_3 z.1))
  · refine ev_iload_n d_Model_isLeap_6 rfl rfl ?_
    refine ev_bipush (v := 100) d_Model_isLeap_7 (by decide) ?_
    refine ev_irem d_Model_isLeap_9 (by decide) ?_
    refine ev_if_ne (tgt := 21) d_Model_isLeap_10 (by decide) (fun c_10 => ?_) (fun c_10 => ?_)
    · exact yes (decide_eq_true ⟨c_3, Or.inl c_10⟩)
    · refine ev_iload_n d_Model_isLeap_13 rfl rfl ?_
      refine ev_sipush (v := 400) d_Model_isLeap_14 (by decide) ?_
      refine ev_irem d_Model_isLeap_17 (by decide) ?_
      refine ev_if_ne (tgt := 25) d_Model_isLeap_18 (by decide) (fun c_18 => ?_) (fun c_18 => ?_)
      · exact no (decide_eq_false (fun z => z.2.elim (fun q => q c_10) c_18))
      · exact yes (decide_eq_true ⟨c_3, Or.inr c_18⟩)
theorem z_daysOf {h : hp_T} (m y : Int32) : ct_E G m_Model_daysOf [.int m, .int y] h (cv (.int (dRf m y)) h) := by
  refine ct_of (ws' := tb_all) rfl rfl (Nat.le_of_ble_eq_true rfl) ?_
  have a43 : ¬ m = 2 → (m = 4 ∨ m = 6 ∨ m = 9 ∨ m = 11) → ev_E G m_Model_daysOf 43 [(0, .int m), (1, .int y)] [] h (cv (.int (dRf m y)) h) := by
    intro h2 q
    refine ev_bipush (v := 30) d_Model_daysOf_43 (by decide) ?_
    refine ev_goto (tgt := 50) d_Model_daysOf_45 (by decide) ?_
    refine ev_iret d_Model_daysOf_50 rfl ?_
    rw [show dRf m y = 30 from (if_neg h2).trans (if_pos q)]
    exact ⟨rfl, rfl⟩
  refine ev_iload_n d_Model_daysOf_0 rfl rfl ?_
  refine ev_iconst (v := 2) d_Model_daysOf_1 (by decide) ?_
  refine ev_icmp_ne (tgt := 20) d_Model_daysOf_2 (by decide) (fun c_2 => ?_) (fun c_2 => ?_)
  · refine ev_iload_n d_Model_daysOf_20 rfl rfl ?_
    refine ev_iconst (v := 4) d_Model_daysOf_21 (by decide) ?_
    refine ev_icmp_eq (tgt := 43) d_Model_daysOf_22 (by decide) (fun c_22 => ?_) (fun c_22 => ?_)
    · exact a43 c_2 (Or.inl c_22)
    · refine ev_iload_n d_Model_daysOf_25 rfl rfl ?_
      refine ev_bipush (v := 6) d_Model_daysOf_26 (by decide) ?_
      refine ev_icmp_eq (tgt := 43) d_Model_daysOf_28 (by decide) (fun c_28 => ?_) (fun c_28 => ?_)
      · exact a43 c_2 (Or.inr (Or.inl c_28))
      · refine ev_iload_n d_Model_daysOf_31 rfl rfl ?_
        refine ev_bipush (v := 9) d_Model_daysOf_32 (by decide) ?_
        refine ev_icmp_eq (tgt := 43) d_Model_daysOf_34 (by decide) (fun c_34 => ?_) (fun c_34 => ?_)
        · exact a43 c_2 (Or.inr (Or.inr (Or.inl c_34)))
        · refine ev_iload_n d_Model_daysOf_37 rfl rfl ?_
          refine ev_bipush (v := 11) d_Model_daysOf_38 (by decide) ?_
          refine ev_icmp_ne (tgt := 48) d_Model_daysOf_40 (by decide) (fun c_40 => ?_) (fun c_40 => ?_)
          · refine ev_bipush (v := 31) d_Model_daysOf_48 (by decide) ?_
            refine ev_iret d_Model_daysOf_50 rfl ?_
            rw [show dRf m y = 31 from (if_neg c_2).trans (if_neg (fun z => z.elim c_22 (fun z => z.elim c_28 (fun z => z.elim c_34 c_40))))]
            exact ⟨rfl, rfl⟩
          · exact a43 c_2 (Or.inr (Or.inr (Or.inr c_40)))
  · refine ev_iload_n d_Model_daysOf_5 rfl rfl ?_
    refine ev_Sv [.int y] [] ca_Model_daysOf_300 d_Model_daysOf_6 rfl (Nat.le_of_ble_eq_true rfl) (z_isLeap y) ?_
    have e : dRf m y = if leap y = true then 29 else 28 := if_pos c_2
    rw [e]
    cases q : leap y with
    | false =>
      refine ev_if_eq (tgt := 17) d_Model_daysOf_9 (by decide) (fun _ => ?_) (fun z => absurd rfl z)
      refine ev_bipush (v := 28) d_Model_daysOf_17 (by decide) ?_
      refine ev_iret d_Model_daysOf_19 rfl ?_
      exact ⟨rfl, rfl⟩
    | true =>
      refine ev_if_eq (tgt := 17) d_Model_daysOf_9 (by decide) (fun z => absurd z (by decide)) (fun _ => ?_)
      refine ev_bipush (v := 29) d_Model_daysOf_12 (by decide) ?_
      refine ev_goto (tgt := 19) d_Model_daysOf_14 (by decide) ?_
      refine ev_iret d_Model_daysOf_19 rfl ?_
      exact ⟨rfl, rfl⟩
theorem lz_dn2 {d : Int32} {mo y : Nat} (hmo : mo ≤ 12) : ∀ (n i : Nat) (x : Int64), i + n = mo → 1 ≤ i → ev_E G m_Model_dayNumber 45 [(0, .ref M), (1, .int d), (2, .int (nI mo)), (3, .int (nI y)), (4, .long x), (6, .int (nI i))] [] (mo_ov cI cZ h0 M I R) (cv (.long (mSB (leap (nI y)) i n x + d.toInt64 - 1 - 25567)) (mo_ov cI cZ h0 M I R)) := by
  intro n
  induction n with
  | zero =>
    intro i x hi hi2
    refine ev_iload d_Model_dayNumber_45 rfl ?_
    refine ev_iload_n d_Model_dayNumber_47 rfl rfl ?_
    refine ev_icmp_ge (tgt := 69) d_Model_dayNumber_48 (by decide) (fun _ => ?_) (fun z => absurd (nI_le (by omega) (by omega)) z)
    refine ev_lload d_Model_dayNumber_69 rfl ?_
    refine ev_iload_n d_Model_dayNumber_71 rfl rfl ?_
    refine ev_i2l d_Model_dayNumber_72 ?_
    refine ev_ladd d_Model_dayNumber_73 ?_
    refine ev_lconst (v := 1) d_Model_dayNumber_74 (by decide) ?_
    refine ev_lsub d_Model_dayNumber_75 ?_
    refine ev_ldc2 (v := 25567) (List.mem_cons_of_mem _ tw_1316) d_Model_dayNumber_76 ?_
    refine ev_lsub d_Model_dayNumber_79 ?_
    refine ev_lret d_Model_dayNumber_80 rfl ?_
    exact ⟨rfl, rfl⟩
  | succ n ih =>
    intro i x hi hi2
    refine ev_iload d_Model_dayNumber_45 rfl ?_
    refine ev_iload_n d_Model_dayNumber_47 rfl rfl ?_
    refine ev_icmp_ge (tgt := 69) d_Model_dayNumber_48 (by decide) (fun z => absurd z (nI_ge (by omega) (by omega))) (fun _ => ?_)
    refine ev_lload d_Model_dayNumber_51 rfl ?_
    refine ev_iload d_Model_dayNumber_53 rfl ?_
    refine ev_iload_n d_Model_dayNumber_55 rfl rfl ?_
    refine ev_Sv [.int (nI i), .int (nI y)] [.long x] ca_Model_dayNumber_315 d_Model_dayNumber_56 rfl (Nat.le_of_ble_eq_true rfl) (z_daysOf (nI i) (nI y)) ?_
    refine ev_i2l d_Model_dayNumber_59 ?_
    refine ev_ladd d_Model_dayNumber_60 ?_
    refine ev_lstore d_Model_dayNumber_61 (by decide) ?_
    refine ev_iinc d_Model_dayNumber_63 rfl (by decide) ?_
    refine ev_goto (tgt := 45) d_Model_dayNumber_66 (by decide) ?_
    rw [mSB]
    refine ev_as [(0, .ref M), (1, .int d), (2, .int (nI mo)), (3, .int (nI y)), (4, .long (x + (dRf (nI i) (nI y)).toInt64)), (6, .int (nI (i + 1)))] ⟨rfl, rfl, rfl, rfl, rfl, ?_, trivial⟩ (ih (i + 1) _ (by omega) (by omega))
    show some (Value.int (nI i + 1)) = _
    rw [nI_succ]
theorem lz_dn1 {d : Int32} {mo y : Nat} (hm1 : 1 ≤ mo) (hmo : mo ≤ 12) (hy : y ≤ 2999) : ∀ (n i : Nat) (x : Int64), i + n = y → ev_E G m_Model_dayNumber 8 [(0, .ref M), (1, .int d), (2, .int (nI mo)), (3, .int (nI y)), (4, .long x), (6, .int (nI i))] [] (mo_ov cI cZ h0 M I R) (cv (.long (mSB (leap (nI y)) 1 (mo - 1) (yS i n x) + d.toInt64 - 1 - 25567)) (mo_ov cI cZ h0 M I R)) := by
  intro n
  induction n with
  | zero =>
    intro i x hi
    refine ev_iload d_Model_dayNumber_8 rfl ?_
    refine ev_iload_n d_Model_dayNumber_10 rfl rfl ?_
    refine ev_icmp_ge (tgt := 42) d_Model_dayNumber_11 (by decide) (fun _ => ?_) (fun z => absurd (nI_le (by omega) (by omega)) z)
    refine ev_iconst (v := 1) d_Model_dayNumber_42 (by decide) ?_
    refine ev_istore d_Model_dayNumber_43 (by decide) ?_
    refine ev_as [(0, .ref M), (1, .int d), (2, .int (nI mo)), (3, .int (nI y)), (4, .long x), (6, .int (nI 1))] ⟨rfl, rfl, rfl, rfl, rfl, rfl, trivial⟩ (lz_dn2 hmo (mo - 1) 1 x (by omega) (by decide))
  | succ n ih =>
    intro i x hi
    refine ev_iload d_Model_dayNumber_8 rfl ?_
    refine ev_iload_n d_Model_dayNumber_10 rfl rfl ?_
    refine ev_icmp_ge (tgt := 42) d_Model_dayNumber_11 (by decide) (fun z => absurd z (nI_ge (by omega) (by omega))) (fun _ => ?_)
    refine ev_lload d_Model_dayNumber_14 rfl ?_
    refine ev_iload d_Model_dayNumber_16 rfl ?_
    refine ev_Sv [.int (nI i)] [.long x] ca_Model_dayNumber_300 d_Model_dayNumber_18 rfl (Nat.le_of_ble_eq_true rfl) (z_isLeap (nI i)) ?_
    rw [yS]
    cases q : leap (nI i) with
    | false =>
      refine ev_if_eq (tgt := 30) d_Model_dayNumber_21 (by decide) (fun _ => ?_) (fun z => absurd rfl z)
      rw [if_neg (by decide)]
      refine ev_ldc2 (v := 365) (List.mem_cons_of_mem _ tw_1315) d_Model_dayNumber_30 ?_
      refine ev_ladd d_Model_dayNumber_33 ?_
      refine ev_lstore d_Model_dayNumber_34 (by decide) ?_
      refine ev_iinc d_Model_dayNumber_36 rfl (by decide) ?_
      refine ev_goto (tgt := 8) d_Model_dayNumber_39 (by decide) ?_
      refine ev_as [(0, .ref M), (1, .int d), (2, .int (nI mo)), (3, .int (nI y)), (4, .long (x + 365)), (6, .int (nI (i + 1)))] ⟨rfl, rfl, rfl, rfl, rfl, ?_, trivial⟩ (ih (i + 1) _ (by omega))
      show some (Value.int (nI i + 1)) = _
      rw [nI_succ]
    | true =>
      refine ev_if_eq (tgt := 30) d_Model_dayNumber_21 (by decide) (fun z => absurd z (by decide)) (fun _ => ?_)
      rw [if_pos rfl]
      refine ev_ldc2 (v := 366) (List.mem_cons_of_mem _ tw_1314) d_Model_dayNumber_24 ?_
      refine ev_goto (tgt := 33) d_Model_dayNumber_27 (by decide) ?_
      refine ev_ladd d_Model_dayNumber_33 ?_
      refine ev_lstore d_Model_dayNumber_34 (by decide) ?_
      refine ev_iinc d_Model_dayNumber_36 rfl (by decide) ?_
      refine ev_goto (tgt := 8) d_Model_dayNumber_39 (by decide) ?_
      refine ev_as [(0, .ref M), (1, .int d), (2, .int (nI mo)), (3, .int (nI y)), (4, .long (x + 366)), (6, .int (nI (i + 1)))] ⟨rfl, rfl, rfl, rfl, rfl, ?_, trivial⟩ (ih (i + 1) _ (by omega))
      show some (Value.int (nI i + 1)) = _
      rw [nI_succ]
theorem z_dayNumber {d : Int32} {mo y : Nat} (hm1 : 1 ≤ mo) (hmo : mo ≤ 12) (hy0 : 1900 ≤ y) (hy : y ≤ 2999) : ct_E G m_Model_dayNumber [.ref M, .int d, .int (nI mo), .int (nI y)] (mo_ov cI cZ h0 M I R) (cv (.long (rDn d mo y)) (mo_ov cI cZ h0 M I R)) := by
  refine ct_of (ws' := tb_all) rfl rfl (Nat.le_of_ble_eq_true rfl) ?_
  refine ev_lconst (v := 0) d_Model_dayNumber_0 (by decide) ?_
  refine ev_lstore d_Model_dayNumber_1 (by decide) ?_
  refine ev_sipush (v := 1900) d_Model_dayNumber_3 (by decide) ?_
  refine ev_istore d_Model_dayNumber_6 (by decide) ?_
  refine ev_as [(0, .ref M), (1, .int d), (2, .int (nI mo)), (3, .int (nI y)), (4, .long 0), (6, .int (nI 1900))] ⟨rfl, rfl, rfl, rfl, rfl, rfl, trivial⟩ (lz_dn1 hm1 hmo hy (y - 1900) 1900 0 (by omega))
end DREF2
