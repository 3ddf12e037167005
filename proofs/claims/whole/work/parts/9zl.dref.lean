/-! dates: the reference, strong -/
section DREF
variable {G : gl_G} {cI cZ : ClassId} {h0 : hp_T} {M : Nat} {I : Nat → Int32} {R : Nat → Nat → Int32} {W : Wds}
theorem dgs_c {c : Int32} {t : List Int32} : dgs (c :: t) = (decide (sp_digit c = 1) && dgs t) := rfl
theorem lz_isDigits (hT : (gl_t G)[0]? = some (cI, .int)) {k e : Nat} (hk : k < 1501) (h11 : R 11 k = nI e) (he : e ≤ 1600) {x y : Int32} : ∀ (l : List Int32) (i : Nat), i + l.length = e → hol (R 12) i l → ev_E G m_Model_isDigits 46 [(0, .ref M), (1, .int (nI k)), (2, .int x), (3, .int y), (4, .int (nI i))] [] (mo_ov cI cZ h0 M I R) (cv (.int (bI (dgs l))) (mo_ov cI cZ h0 M I R)) := by
  have i11 : vp_in (nI k) (mo_len 11) := vp_in_nI (show k < 1501 by omega) (by decide)
  intro l
  induction l with
  | nil =>
    intro i hi _
    have hi' : i = e := hi
    refine ev_iload d_Model_isDigits_46 rfl ?_
    refine ev_aload_n d_Model_isDigits_48 rfl rfl ?_
    refine mo_get (fa_Model_40 rfl rfl) d_Model_isDigits_49 rfl ?_
    refine ev_iload_n d_Model_isDigits_52 rfl rfl ?_
    refine mo_ald hT d_Model_isDigits_53 (by decide) i11 ?_
    rw [nI_clamp (by omega), h11]
    refine ev_icmp_ge (tgt := 78) d_Model_isDigits_54 (by decide) (fun _ => ?_) (fun z => absurd (nI_le (by omega) (by omega)) z)
    refine ev_iconst (v := 1) d_Model_isDigits_78 (by decide) ?_
    refine ev_zret d_Model_isDigits_79 rfl rfl ?_
    exact ⟨rfl, rfl⟩
  | cons c t ih =>
    intro i hi hh
    rw [List.length_cons] at hi
    obtain ⟨e1, hh2⟩ := hol_cons hh
    have i12 : vp_in (nI i) (mo_len 12) := vp_in_nI (show i < 1600 by omega) (by decide)
    refine ev_iload d_Model_isDigits_46 rfl ?_
    refine ev_aload_n d_Model_isDigits_48 rfl rfl ?_
    refine mo_get (fa_Model_40 rfl rfl) d_Model_isDigits_49 rfl ?_
    refine ev_iload_n d_Model_isDigits_52 rfl rfl ?_
    refine mo_ald hT d_Model_isDigits_53 (by decide) i11 ?_
    rw [nI_clamp (by omega), h11]
    refine ev_icmp_ge (tgt := 78) d_Model_isDigits_54 (by decide) (fun z => absurd z (nI_ge (by omega) (by omega))) (fun _ => ?_)
    refine ev_aload_n d_Model_isDigits_57 rfl rfl ?_
    refine mo_get (fa_Model_43 rfl rfl) d_Model_isDigits_58 rfl ?_
    refine ev_iload d_Model_isDigits_61 rfl ?_
    refine mo_ald hT d_Model_isDigits_63 (by decide) i12 ?_
    rw [nI_clamp (by omega), e1]
    refine ev_Sv [.int c] [] ca_Model_isDigits_271 d_Model_isDigits_64 rfl (Nat.le_of_ble_eq_true rfl) (c_Model_isDigit c) ?_
    rw [dgs_c]
    rcases digit_01 c with q | q
    · rw [q]
      refine ev_if_ne (tgt := 72) d_Model_isDigits_67 (by decide) (fun _ => ?_) (fun z => absurd z (by decide))
      refine ev_iinc d_Model_isDigits_72 rfl (by decide) ?_
      refine ev_goto (tgt := 46) d_Model_isDigits_75 (by decide) ?_
      rw [show nI i + Int32.ofInt 1 = nI (i + 1) from nI_1 i]
      exact ih (i + 1) (by omega) hh2
    · rw [q]
      refine ev_if_ne (tgt := 72) d_Model_isDigits_67 (by decide) (fun z => absurd rfl z) (fun _ => ?_)
      refine ev_iconst (v := 0) d_Model_isDigits_70 (by decide) ?_
      refine ev_zret d_Model_isDigits_71 rfl rfl ?_
      exact ⟨rfl, rfl⟩
theorem z_isDigits (hT : (gl_t G)[0]? = some (cI, .int)) (hW : wOk W I R) (hl : W.length ≤ 1501) (hb : (wB W).length ≤ 1501) {k : Nat} (hk : k ≤ 5000) {a b : Nat} (ha : a < 2 ^ 30) (hb9 : b < 2 ^ 30) : ct_E G m_Model_isDigits [.ref M, .int (nI k), .int (nI a), .int (nI b)] (mo_ov cI cZ h0 M I R) (cv (.int (bI (num a b W[k]?).isSome)) (mo_ov cI cZ h0 M I R)) := by
  refine ct_of (ws' := tb_all) rfl rfl (Nat.le_of_ble_eq_true rfl) ?_
  have no : num a b W[k]? = none → ev_E G m_Model_isDigits 36 [(0, .ref M), (1, .int (nI k)), (2, .int (nI a)), (3, .int (nI b))] [] (mo_ov cI cZ h0 M I R) (cv (.int (bI (num a b W[k]?).isSome)) (mo_ov cI cZ h0 M I R)) := by
    intro q
    refine ev_iconst (v := 0) d_Model_isDigits_36 (by decide) ?_
    refine ev_zret d_Model_isDigits_37 rfl rfl ?_
    rw [q]
    exact ⟨rfl, rfl⟩
  refine ev_iload_n d_Model_isDigits_0 rfl rfl ?_
  refine ev_aload_n d_Model_isDigits_1 rfl rfl ?_
  refine mo_get (fa_Model_149 rfl rfl) d_Model_isDigits_2 rfl ?_
  rw [hW.1]
  cases qk : W[k]? with
  | none =>
    have := List.getElem?_eq_none_iff.mp qk
    refine ev_icmp_ge (tgt := 36) d_Model_isDigits_5 (by decide) (fun _ => ?_) (fun z => absurd (nI_le this (by omega)) z)
    rw [qk] at no
    exact no rfl
  | some w =>
    have hlt := (List.getElem?_eq_some_iff.mp qk).1
    refine ev_icmp_ge (tgt := 36) d_Model_isDigits_5 (by decide) (fun z => absurd z (nI_ge hlt (by omega))) (fun _ => ?_)
    rw [qk] at no
    obtain ⟨r10, r11, rb, rh⟩ := wds_o hW qk
    have r8 := (hW.2.2.2 k w qk).1
    have i8 : vp_in (nI k) (mo_len 8) := vp_in_nI (show k < 1501 by omega) (by decide)
    have i10 : vp_in (nI k) (mo_len 10) := vp_in_nI (show k < 1501 by omega) (by decide)
    refine ev_aload_n d_Model_isDigits_8 rfl rfl ?_
    refine mo_get (fa_Model_31 rfl rfl) d_Model_isDigits_9 rfl ?_
    refine ev_iload_n d_Model_isDigits_12 rfl rfl ?_
    refine mo_ald hT d_Model_isDigits_13 (by decide) i8 ?_
    refine ev_iconst (v := 4) d_Model_isDigits_14 (by decide) ?_
    rw [nI_clamp (by omega), r8]
    by_cases w4 : w.1 = 4
    rotate_left
    · refine ev_icmp_ne (tgt := 36) d_Model_isDigits_15 (by decide) (fun _ => ?_) (fun z => absurd z w4)
      exact no (if_neg (fun z => w4 z.1))
    refine ev_icmp_ne (tgt := 36) d_Model_isDigits_15 (by decide) (fun z => absurd w4 z) (fun _ => ?_)
    refine ev_aload_n d_Model_isDigits_18 rfl rfl ?_
    refine ev_iload_n d_Model_isDigits_19 rfl rfl ?_
    refine mo_Vv [.int (nI k)] [] ca_Model_isDigits_268 d_Model_isDigits_20 rfl (Nat.le_of_ble_eq_true rfl) (c_Model_longOf hT hW hl qk) ?_
    refine ev_iload_n d_Model_isDigits_23 rfl rfl ?_
    by_cases h1 : a ≤ w.2.2.length
    rotate_left
    · refine ev_icmp_lt (tgt := 36) d_Model_isDigits_24 (by decide) (fun _ => ?_) (fun z => absurd (nI_lt (Nat.lt_of_not_le h1) (by omega)) z)
      exact no (if_neg (fun z => h1 z.2.1))
    refine ev_icmp_lt (tgt := 36) d_Model_isDigits_24 (by decide) (fun z => absurd z (nI_nlt h1 (by omega))) (fun _ => ?_)
    refine ev_aload_n d_Model_isDigits_27 rfl rfl ?_
    refine ev_iload_n d_Model_isDigits_28 rfl rfl ?_
    refine mo_Vv [.int (nI k)] [] ca_Model_isDigits_268 d_Model_isDigits_29 rfl (Nat.le_of_ble_eq_true rfl) (c_Model_longOf hT hW hl qk) ?_
    refine ev_iload_n d_Model_isDigits_32 rfl rfl ?_
    by_cases h2 : w.2.2.length ≤ b
    rotate_left
    · refine ev_icmp_le (tgt := 38) d_Model_isDigits_33 (by decide) (fun z => absurd z (nI_ge (Nat.lt_of_not_le h2) (by omega))) (fun _ => ?_)
      exact no (if_neg (fun z => h2 z.2.2.1))
    refine ev_icmp_le (tgt := 38) d_Model_isDigits_33 (by decide) (fun _ => ?_) (fun z => absurd (nI_le h2 (by omega)) z)
    refine ev_aload_n d_Model_isDigits_38 rfl rfl ?_
    refine mo_get (fa_Model_37 rfl rfl) d_Model_isDigits_39 rfl ?_
    refine ev_iload_n d_Model_isDigits_42 rfl rfl ?_
    refine mo_ald hT d_Model_isDigits_43 (by decide) i10 ?_
    rw [nI_clamp (by omega), r10]
    refine ev_istore d_Model_isDigits_44 (by decide) ?_
    have e : (num a b (some w)).isSome = dgs w.2.2 := by
      unfold num
      simp only
      cases q : dgs w.2.2 with
      | true => rw [if_pos ⟨w4, h1, h2, rfl⟩]; rfl
      | false => rw [if_neg (fun z => by cases z.2.2.2)]; rfl
    rw [e]
    exact lz_isDigits hT (by omega) r11 (by omega) w.2.2 _ rfl (rh _ hW.2.2.1)
theorem lz_numberOf (hT : (gl_t G)[0]? = some (cI, .int)) {e : Nat} (he : e ≤ 1600) {x0 : Int32} : ∀ (l : List Int32) (i x : Nat), i + l.length = e → hol (R 12) i l → dgs l = true → x ≤ 1000009 → ev_E G m_Model_numberOf 5 [(0, .ref M), (1, .int x0), (2, .int (nI e)), (3, .int (nI x)), (4, .int (nI i))] [] (mo_ov cI cZ h0 M I R) (cv (.int (nI (nmR l x))) (mo_ov cI cZ h0 M I R)) := by
  intro l
  induction l with
  | nil =>
    intro i x hi _ _ _
    have hi' : i = e := hi
    refine ev_iload d_Model_numberOf_5 rfl ?_
    refine ev_iload_n d_Model_numberOf_7 rfl rfl ?_
    refine ev_icmp_ge (tgt := 44) d_Model_numberOf_8 (by decide) (fun _ => ?_) (fun z => absurd (nI_le (by omega) (by omega)) z)
    refine ev_iload_n d_Model_numberOf_44 rfl rfl ?_
    refine ev_iret d_Model_numberOf_45 rfl ?_
    exact ⟨rfl, rfl⟩
  | cons c t ih =>
    intro i x hi hh hd hx
    rw [List.length_cons] at hi
    obtain ⟨e1, hh2⟩ := hol_cons hh
    have hd1 : sp_digit c = 1 ∧ dgs t = true := by simpa [dgs] using hd
    obtain ⟨v1, v2, -⟩ := dig_v hd1.1
    have i12 : vp_in (nI i) (mo_len 12) := vp_in_nI (show i < 1600 by omega) (by decide)
    have on : ∀ y : Nat, y ≤ 1000009 → ev_E G m_Model_numberOf 37 [(0, .ref M), (1, .int x0), (2, .int (nI e)), (3, .int (nI x)), (4, .int (nI i))] [.int (nI y)] (mo_ov cI cZ h0 M I R) (cv (.int (nI (nmR t y))) (mo_ov cI cZ h0 M I R)) := by
      intro y hy
      refine ev_istore_n d_Model_numberOf_37 rfl (by decide) ?_
      refine ev_iinc d_Model_numberOf_38 rfl (by decide) ?_
      refine ev_goto (tgt := 5) d_Model_numberOf_41 (by decide) ?_
      rw [show nI i + Int32.ofInt 1 = nI (i + 1) from nI_1 i]
      exact ih (i + 1) y (by omega) hh2 hd1.2 hy
    rw [nmR]
    refine ev_iload d_Model_numberOf_5 rfl ?_
    refine ev_iload_n d_Model_numberOf_7 rfl rfl ?_
    refine ev_icmp_ge (tgt := 44) d_Model_numberOf_8 (by decide) (fun z => absurd z (nI_ge (by omega) (by omega))) (fun _ => ?_)
    refine ev_iload_n d_Model_numberOf_11 rfl rfl ?_
    refine ev_ldcw (v := 100000) (List.mem_cons_of_mem _ tw_1271) d_Model_numberOf_12 ?_
    by_cases q : 100000 < x
    · refine ev_icmp_le (tgt := 22) d_Model_numberOf_15 (by decide) (fun z => absurd z (show ¬ nI x ≤ nI 100000 from nI_ge q (by omega))) (fun _ => ?_)
      rw [if_pos q]
      refine ev_iload_n d_Model_numberOf_18 rfl rfl ?_
      refine ev_goto (tgt := 37) d_Model_numberOf_19 (by decide) ?_
      exact on x hx
    · refine ev_icmp_le (tgt := 22) d_Model_numberOf_15 (by decide) (fun _ => ?_) (fun z => absurd (show nI x ≤ nI 100000 from nI_le (by omega) (by decide)) z)
      rw [if_neg q]
      refine ev_bipush (v := 10) d_Model_numberOf_22 (by decide) ?_
      refine ev_iload_n d_Model_numberOf_24 rfl rfl ?_
      refine ev_imul d_Model_numberOf_25 ?_
      refine ev_aload_n d_Model_numberOf_26 rfl rfl ?_
      refine mo_get (fa_Model_43 rfl rfl) d_Model_numberOf_27 rfl ?_
      refine ev_iload d_Model_numberOf_30 rfl ?_
      refine mo_ald hT d_Model_numberOf_32 (by decide) i12 ?_
      refine ev_iadd d_Model_numberOf_33 ?_
      refine ev_bipush (v := 48) d_Model_numberOf_34 (by decide) ?_
      refine ev_isub d_Model_numberOf_36 ?_
      rw [nI_clamp (by omega), e1]
      have e3 : (10 : Int32) * nI x + c - 48 = nI (10 * x + dv c) := by
        have : (10 : Int32) * nI x + c - 48 = 10 * nI x + (c - 48) := by
          rw [Int32.sub_eq_add_neg, Int32.add_assoc, ← Int32.sub_eq_add_neg]
        rw [this, v1]
        unfold nI
        rw [Int32.ofNat_add, Int32.ofNat_mul]
        rfl
      rw [e3]
      exact on _ (by omega)
theorem z_numberOf (hT : (gl_t G)[0]? = some (cI, .int)) {a e : Nat} {l : List Int32} (hl : a + l.length = e) (he : e ≤ 1600) (hh : hol (R 12) a l) (hd : dgs l = true) : ct_E G m_Model_numberOf [.ref M, .int (nI a), .int (nI e)] (mo_ov cI cZ h0 M I R) (cv (.int (nI (nmR l 0))) (mo_ov cI cZ h0 M I R)) := by
  refine ct_of (ws' := tb_all) rfl rfl (Nat.le_of_ble_eq_true rfl) ?_
  refine ev_iconst (v := 0) d_Model_numberOf_0 (by decide) ?_
  refine ev_istore_n d_Model_numberOf_1 rfl (by decide) ?_
  refine ev_iload_n d_Model_numberOf_2 rfl rfl ?_
  refine ev_istore d_Model_numberOf_3 (by decide) ?_
  exact lz_numberOf hT he l a 0 hl hh hd (by decide)
theorem z_number (hT : (gl_t G)[0]? = some (cI, .int)) (hW : wOk W I R) (hl : W.length ≤ 1501) (hb : (wB W).length ≤ 1501) {k : Nat} {w : Wd} (qk : W[k]? = some w) (hd : dgs w.2.2 = true) : ct_E G m_Model_number [.ref M, .int (nI k)] (mo_ov cI cZ h0 M I R) (cv (.int (nI (nmR w.2.2 0))) (mo_ov cI cZ h0 M I R)) := by
  have hk := (List.getElem?_eq_some_iff.mp qk).1
  obtain ⟨r10, r11, rb, rh⟩ := wds_o hW qk
  have i10 : vp_in (nI k) (mo_len 10) := vp_in_nI (show k < 1501 by omega) (by decide)
  have i11 : vp_in (nI k) (mo_len 11) := vp_in_nI (show k < 1501 by omega) (by decide)
  refine ct_of (ws' := tb_all) rfl rfl (Nat.le_of_ble_eq_true rfl) ?_
  refine ev_aload_n d_Model_number_0 rfl rfl ?_
  refine ev_aload_n d_Model_number_1 rfl rfl ?_
  refine mo_get (fa_Model_37 rfl rfl) d_Model_number_2 rfl ?_
  refine ev_iload_n d_Model_number_5 rfl rfl ?_
  refine mo_ald hT d_Model_number_6 (by decide) i10 ?_
  rw [nI_clamp (by omega), r10]
  refine ev_aload_n d_Model_number_7 rfl rfl ?_
  refine mo_get (fa_Model_40 rfl rfl) d_Model_number_8 rfl ?_
  refine ev_iload_n d_Model_number_11 rfl rfl ?_
  refine mo_ald hT d_Model_number_12 (by decide) i11 ?_
  rw [nI_clamp (by omega), r11]
  refine mo_Vv [.int (nI (wB (W.take k)).length), .int (nI ((wB (W.take k)).length + w.2.2.length))] [] ca_Model_number_275 d_Model_number_13 rfl (Nat.le_of_ble_eq_true rfl) (z_numberOf hT rfl (by omega) (rh _ hW.2.2.1) hd) ?_
  refine ev_iret d_Model_number_16 rfl ?_
  exact ⟨rfl, rfl⟩
/-- the letter at place i of three -/
def lt3 (y i : Int32) : Int32 := y >>> ((16 - 8 * i) &&& 31) &&& 255
theorem z_isThree (hT : (gl_t G)[0]? = some (cI, .int)) {k o : Nat} (hk : k < 1501) (h10 : R 10 k = nI o) {l : List Int32} (hl3 : 3 ≤ l.length) (ho : o + l.length ≤ 1600) (hh : hol (R 12) o l) (y : Int32) : ct_E G m_Model_isThree [.ref M, .int (nI k), .int 0, .int y] (mo_ov cI cZ h0 M I R) (cv (.int (bI (th3 l (lt3 y 0) (lt3 y 1) (lt3 y 2)))) (mo_ov cI cZ h0 M I R)) := by
  have i10 : vp_in (nI k) (mo_len 10) := vp_in_nI (show k < 1501 by omega) (by decide)
  have at_ : ∀ i, i < 3 → vp_in (nI o + 0 + nI i) (mo_len 12) ∧ R 12 (nI o + 0 + nI i).toNatClampNeg = rg l (nI i) := by
    intro i hi
    rw [show nI o + 0 + nI i = nI (o + i) from by rw [Int32.add_zero]; exact nI_add o i]
    exact ⟨vp_in_nI (show o + i < 1600 by omega) (by decide), by rw [nI_clamp (by omega)]; exact hh i _ (rg_in (by omega) (by omega))⟩
  -- one letter: on, or no
  have one : ∀ i, i < 3 → (sp_small (rg l (nI i)) = lt3 y (nI i) → ev_E G m_Model_isThree 3 [(0, .ref M), (1, .int (nI k)), (2, .int 0), (3, .int y), (4, .int (nI (i + 1)))] [] (mo_ov cI cZ h0 M I R) (cv (.int (bI (th3 l (lt3 y 0) (lt3 y 1) (lt3 y 2)))) (mo_ov cI cZ h0 M I R))) → (¬ sp_small (rg l (nI i)) = lt3 y (nI i) → th3 l (lt3 y 0) (lt3 y 1) (lt3 y 2) = false) → ev_E G m_Model_isThree 3 [(0, .ref M), (1, .int (nI k)), (2, .int 0), (3, .int y), (4, .int (nI i))] [] (mo_ov cI cZ h0 M I R) (cv (.int (bI (th3 l (lt3 y 0) (lt3 y 1) (lt3 y 2)))) (mo_ov cI cZ h0 M I R)) := by
    intro i hi yes no
    obtain ⟨i12, e12⟩ := at_ i hi
    refine ev_iload d_Model_isThree_3 rfl ?_
    refine ev_iconst (v := 3) d_Model_isThree_5 (by decide) ?_
    refine ev_icmp_ge (tgt := 53) d_Model_isThree_6 (by decide) (fun z => absurd z (nI_ge (a := i) (b := 3) (by omega) (by omega))) (fun _ => ?_)
    refine ev_aload_n d_Model_isThree_9 rfl rfl ?_
    refine mo_get (fa_Model_43 rfl rfl) d_Model_isThree_10 rfl ?_
    refine ev_aload_n d_Model_isThree_13 rfl rfl ?_
    refine mo_get (fa_Model_37 rfl rfl) d_Model_isThree_14 rfl ?_
    refine ev_iload_n d_Model_isThree_17 rfl rfl ?_
    refine mo_ald hT d_Model_isThree_18 (by decide) i10 ?_
    rw [nI_clamp (by omega), h10]
    refine ev_iload_n d_Model_isThree_19 rfl rfl ?_
    refine ev_iadd d_Model_isThree_20 ?_
    refine ev_iload d_Model_isThree_21 rfl ?_
    refine ev_iadd d_Model_isThree_23 ?_
    refine mo_ald hT d_Model_isThree_24 (by decide) i12 ?_
    rw [e12]
    refine ev_Sv [.int _] [] ca_Model_isThree_133 d_Model_isThree_25 rfl (Nat.le_of_ble_eq_true rfl) (c_Model_small _) ?_
    refine ev_iload_n d_Model_isThree_28 rfl rfl ?_
    refine ev_bipush (v := 16) d_Model_isThree_29 (by decide) ?_
    refine ev_bipush (v := 8) d_Model_isThree_31 (by decide) ?_
    refine ev_iload d_Model_isThree_33 rfl ?_
    refine ev_imul d_Model_isThree_35 ?_
    refine ev_isub d_Model_isThree_36 ?_
    refine ev_ishr d_Model_isThree_37 ?_
    refine ev_sipush (v := 255) d_Model_isThree_38 (by decide) ?_
    refine ev_iand d_Model_isThree_41 ?_
    refine ev_icmp_eq (tgt := 47) d_Model_isThree_42 (by decide) (fun c_42 => ?_) (fun c_42 => ?_)
    · refine ev_iinc d_Model_isThree_47 rfl (by decide) ?_
      refine ev_goto (tgt := 3) d_Model_isThree_50 (by decide) ?_
      rw [show nI i + Int32.ofInt 1 = nI (i + 1) from nI_1 i]
      exact yes c_42
    · refine ev_iconst (v := 0) d_Model_isThree_45 (by decide) ?_
      refine ev_zret d_Model_isThree_46 rfl rfl ?_
      rw [no c_42]
      exact ⟨rfl, rfl⟩
  refine ct_of (ws' := tb_all) rfl rfl (Nat.le_of_ble_eq_true rfl) ?_
  refine ev_iconst (v := 0) d_Model_isThree_0 (by decide) ?_
  refine ev_istore d_Model_isThree_1 (by decide) ?_
  refine one 0 (by decide) (fun p0 => ?_) (fun n0 => decide_eq_false (fun z => n0 z.1))
  refine one 1 (by decide) (fun p1 => ?_) (fun n1 => decide_eq_false (fun z => n1 z.2.1))
  refine one 2 (by decide) (fun p2 => ?_) (fun n2 => decide_eq_false (fun z => n2 z.2.2))
  refine ev_iload d_Model_isThree_3 rfl ?_
  refine ev_iconst (v := 3) d_Model_isThree_5 (by decide) ?_
  refine ev_icmp_ge (tgt := 53) d_Model_isThree_6 (by decide) (fun _ => ?_) (fun z => absurd (nI_le (a := 3) (b := 3) (by omega) (by omega)) z)
  refine ev_iconst (v := 1) d_Model_isThree_53 (by decide) ?_
  refine ev_zret d_Model_isThree_54 rfl rfl ?_
  rw [show th3 l (lt3 y 0) (lt3 y 1) (lt3 y 2) = true from decide_eq_true ⟨p0, p1, p2⟩]
  exact ⟨rfl, rfl⟩
end DREF
