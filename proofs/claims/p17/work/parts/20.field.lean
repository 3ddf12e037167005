/-! the reference: a line's name and colon, what is kept -/
theorem cnt_no {p : Int32 → Bool} {x : Int32} {t : List Int32} (h : p x = false) : cnt p (x :: t) = 0 := by
  unfold cnt
  rw [if_neg (by rw [h]; decide)]
theorem cnt_yes {p : Int32 → Bool} {x : Int32} {t : List Int32} (h : p x = true) : cnt p (x :: t) = cnt p t + 1 := by
  show (if p x = true then _ else _) = _
  rw [if_pos h]
theorem bl_of {b : Int32} (h : ¬ sp_blank b = 0) : isBl b = true := by
  unfold sp_blank at h
  unfold isBl
  split at h
  · rename_i z; exact decide_eq_true z
  · exact absurd rfl h
theorem bl_no {b : Int32} (h : sp_blank b = 0) : isBl b = false := by
  unfold sp_blank at h
  unfold isBl
  split at h
  · exact absurd h (by decide)
  · rename_i z; exact decide_eq_false z
/-- a row's list laid down from a place on -/
def cpl (f : Nat → Int32) (o : Nat) (xs : List Int32) : Nat → Int32 := fun j => if o ≤ j ∧ j < o + xs.length then xs.getD (j - o) 0 else f j
theorem cpl_nil (f : Nat → Int32) (o : Nat) : cpl f o [] = f := by
  funext j
  exact if_neg (by simp only [List.length_nil]; omega)
theorem cpl_cons (f : Nat → Int32) (o : Nat) (x : Int32) (t : List Int32) : cpl (upd f o x) (o + 1) t = cpl f o (x :: t) := by
  funext j
  unfold cpl upd
  by_cases h : o + 1 ≤ j ∧ j < o + 1 + t.length
  · rw [if_pos h, if_pos (by simp; omega), show j - o = (j - (o + 1)) + 1 by omega]
    rfl
  · rw [if_neg h]
    by_cases hj : j = o
    · subst hj
      rw [if_pos rfl, if_pos (by simp), Nat.sub_self]
      rfl
    · rw [if_neg hj, if_neg (by simp; omega)]
theorem cpl_hol (f : Nat → Int32) (o : Nat) (xs : List Int32) : hol (cpl f o xs) o xs := fun j x hx => by
  have hj : j < xs.length := (List.getElem?_eq_some_iff.mp hx).1
  unfold cpl
  rw [if_pos (by omega), Nat.add_sub_cancel_left, List.getD_eq_getElem?_getD, hx]
  rfl
theorem cpl_out {f : Nat → Int32} {o o2 : Nat} {xs ys : List Int32} (h : hol f o2 ys) (ho : o2 + ys.length ≤ o) : hol (cpl f o xs) o2 ys := hol_same h (fun j h1 h2 => if_neg (by omega))
section FIELD
variable {G : gl_G} {cI cZ : ClassId} {h0 : hp_T} {M : Nat} {I : Nat → Int32} {R : Nat → Nat → Int32}
theorem l_Model_colonOf1 (hT : (gl_t G)[0]? = some (cI, .int)) {b e : Nat} (he : e ≤ 1500) {Z : Option Value → hp_T → Prop} : ∀ (t : List Int32) (k : Nat), hol (R 2) k t → k + t.length = e →
    ev_E G m_Model_colonOf 46 [(0, .ref M), (1, .int (nI b)), (2, .int (nI e)), (3, .int (nI (k + cnt isNm t)))] [] (mo_ov cI cZ h0 M I R) Z →
    ev_E G m_Model_colonOf 2 [(0, .ref M), (1, .int (nI b)), (2, .int (nI e)), (3, .int (nI k))] [] (mo_ov cI cZ h0 M I R) Z := by
  intro t
  induction t with
  | nil =>
    intro k hh hl K
    refine ev_iload_n d_Model_colonOf_2 rfl rfl ?_
    refine ev_iload_n d_Model_colonOf_3 rfl rfl ?_
    refine ev_icmp_ge (tgt := 46) d_Model_colonOf_4 (by decide) (fun c_4 => ?_) (fun c_4 => ?_)
    · exact K
    · exact absurd (nI_le (a := e) (b := k) (by simp at hl; omega) (by simp at hl; omega)) c_4
  | cons x t ih =>
    intro k hh hl K
    simp only [List.length_cons] at hl
    obtain ⟨hx, ht⟩ := hol_cons hh
    have hx' : R 2 (nI k).toNatClampNeg = x := by rw [nI_clamp (by omega)]; exact hx
    have hin : vp_in (nI k) (mo_len 2) := vp_in_nI (show k < 1500 by omega) (by decide)
    refine ev_iload_n d_Model_colonOf_2 rfl rfl ?_
    refine ev_iload_n d_Model_colonOf_3 rfl rfl ?_
    refine ev_icmp_ge (tgt := 46) d_Model_colonOf_4 (by decide) (fun c_4 => ?_) (fun c_4 => ?_)
    · exact absurd c_4 (nI_ge (a := k) (b := e) (by omega) (by omega))
    · refine ev_aload_n d_Model_colonOf_7 rfl rfl ?_
      refine mo_get (fa_Model_13 rfl rfl) d_Model_colonOf_8 rfl ?_
      refine ev_iload_n d_Model_colonOf_11 rfl rfl ?_
      refine mo_ald hT d_Model_colonOf_12 (by decide) hin ?_
      refine ev_bipush (v := 33) d_Model_colonOf_13 (by decide) ?_
      rw [hx']
      refine ev_icmp_lt (tgt := 46) d_Model_colonOf_15 (by decide) (fun c_15 => ?_) (fun c_15 => ?_)
      · rw [cnt_no (show isNm x = false from decide_eq_false (fun z => z.1 c_15))] at K
        exact K
      · refine ev_aload_n d_Model_colonOf_18 rfl rfl ?_
        refine mo_get (fa_Model_13 rfl rfl) d_Model_colonOf_19 rfl ?_
        refine ev_iload_n d_Model_colonOf_22 rfl rfl ?_
        refine mo_ald hT d_Model_colonOf_23 (by decide) hin ?_
        refine ev_bipush (v := 126) d_Model_colonOf_24 (by decide) ?_
        rw [hx']
        refine ev_icmp_gt (tgt := 46) d_Model_colonOf_26 (by decide) (fun c_26 => ?_) (fun c_26 => ?_)
        · rw [cnt_no (show isNm x = false from decide_eq_false (fun z => z.2.1 c_26))] at K
          exact K
        · refine ev_aload_n d_Model_colonOf_29 rfl rfl ?_
          refine mo_get (fa_Model_13 rfl rfl) d_Model_colonOf_30 rfl ?_
          refine ev_iload_n d_Model_colonOf_33 rfl rfl ?_
          refine mo_ald hT d_Model_colonOf_34 (by decide) hin ?_
          refine ev_bipush (v := 58) d_Model_colonOf_35 (by decide) ?_
          rw [hx']
          refine ev_icmp_eq (tgt := 46) d_Model_colonOf_37 (by decide) (fun c_37 => ?_) (fun c_37 => ?_)
          · rw [cnt_no (show isNm x = false from decide_eq_false (fun z => z.2.2 c_37))] at K
            exact K
          · refine ev_iinc d_Model_colonOf_40 rfl (by decide) ?_
            refine ev_goto (tgt := 2) d_Model_colonOf_43 (by decide) ?_
            rw [cnt_yes (show isNm x = true from decide_eq_true ⟨c_15, c_26, c_37⟩), show k + (cnt isNm t + 1) = k + 1 + cnt isNm t by omega] at K
            refine ev_as [(0, .ref M), (1, .int (nI b)), (2, .int (nI e)), (3, .int (nI (k + 1)))] ⟨rfl, rfl, rfl, ?_, trivial⟩ (ih (k + 1) ht (by omega) K)
            show some (Value.int (nI k + 1)) = _
            rw [nI_succ]
theorem l_Model_colonOf2 (hT : (gl_t G)[0]? = some (cI, .int)) {b e : Nat} (he : e ≤ 1500) {Z : Option Value → hp_T → Prop} : ∀ (t : List Int32) (k : Nat), hol (R 2) k t → k + t.length = e →
    ev_E G m_Model_colonOf 76 [(0, .ref M), (1, .int (nI b)), (2, .int (nI e)), (3, .int (nI (k + cnt isBl t)))] [] (mo_ov cI cZ h0 M I R) Z →
    ev_E G m_Model_colonOf 53 [(0, .ref M), (1, .int (nI b)), (2, .int (nI e)), (3, .int (nI k))] [] (mo_ov cI cZ h0 M I R) Z := by
  intro t
  induction t with
  | nil =>
    intro k hh hl K
    refine ev_iload_n d_Model_colonOf_53 rfl rfl ?_
    refine ev_iload_n d_Model_colonOf_54 rfl rfl ?_
    refine ev_icmp_ge (tgt := 76) d_Model_colonOf_55 (by decide) (fun c_55 => ?_) (fun c_55 => ?_)
    · exact K
    · exact absurd (nI_le (a := e) (b := k) (by simp at hl; omega) (by simp at hl; omega)) c_55
  | cons x t ih =>
    intro k hh hl K
    simp only [List.length_cons] at hl
    obtain ⟨hx, ht⟩ := hol_cons hh
    have hx' : R 2 (nI k).toNatClampNeg = x := by rw [nI_clamp (by omega)]; exact hx
    have hin : vp_in (nI k) (mo_len 2) := vp_in_nI (show k < 1500 by omega) (by decide)
    refine ev_iload_n d_Model_colonOf_53 rfl rfl ?_
    refine ev_iload_n d_Model_colonOf_54 rfl rfl ?_
    refine ev_icmp_ge (tgt := 76) d_Model_colonOf_55 (by decide) (fun c_55 => ?_) (fun c_55 => ?_)
    · exact absurd c_55 (nI_ge (a := k) (b := e) (by omega) (by omega))
    · refine ev_aload_n d_Model_colonOf_58 rfl rfl ?_
      refine mo_get (fa_Model_13 rfl rfl) d_Model_colonOf_59 rfl ?_
      refine ev_iload_n d_Model_colonOf_62 rfl rfl ?_
      refine mo_ald hT d_Model_colonOf_63 (by decide) hin ?_
      rw [hx']
      refine ev_Sv [.int x] [] ca_Model_colonOf_109 d_Model_colonOf_64 rfl (Nat.le_of_ble_eq_true rfl) (c_Model_isBlank x) ?_
      refine ev_if_eq (tgt := 76) d_Model_colonOf_67 (by decide) (fun c_67 => ?_) (fun c_67 => ?_)
      · rw [cnt_no (bl_no c_67)] at K
        exact K
      · refine ev_iinc d_Model_colonOf_70 rfl (by decide) ?_
        refine ev_goto (tgt := 53) d_Model_colonOf_73 (by decide) ?_
        rw [cnt_yes (bl_of c_67), show k + (cnt isBl t + 1) = k + 1 + cnt isBl t by omega] at K
        refine ev_as [(0, .ref M), (1, .int (nI b)), (2, .int (nI e)), (3, .int (nI (k + 1)))] ⟨rfl, rfl, rfl, ?_, trivial⟩ (ih (k + 1) ht (by omega) K)
        show some (Value.int (nI k + 1)) = _
        rw [nI_succ]
/-- what colonOf answers for a line at b -/
def cla (b : Nat) (l : List Int32) : Int32 := match clp l with
  | none => -1
  | some c => nI (b + c)
theorem c_Model_colonOf (hT : (gl_t G)[0]? = some (cI, .int)) {b : Nat} {l : List Int32} (hh : hol (R 2) b l) (he : b + l.length ≤ 1500) : ct_E G m_Model_colonOf [.ref M, .int (nI b), .int (nI (b + l.length))] (mo_ov cI cZ h0 M I R) (cv (.int (cla b l)) (mo_ov cI cZ h0 M I R)) := by
  have hn := cnt_le isNm l
  have hb := cnt_le isBl (l.drop (cnt isNm l))
  rw [List.length_drop] at hb
  refine ct_of (ws' := tb_all) rfl rfl (Nat.le_of_ble_eq_true rfl) ?_
  refine ev_iload_n d_Model_colonOf_0 rfl rfl ?_
  refine ev_istore_n d_Model_colonOf_1 rfl (by decide) ?_
  refine ev_as [(0, .ref M), (1, .int (nI b)), (2, .int (nI (b + l.length))), (3, .int (nI b))] ⟨rfl, rfl, rfl, rfl, trivial⟩ ?_
  refine l_Model_colonOf1 hT he l b hh rfl ?_
  refine ev_iload_n d_Model_colonOf_46 rfl rfl ?_
  refine ev_iload_n d_Model_colonOf_47 rfl rfl ?_
  refine ev_icmp_ne (tgt := 53) d_Model_colonOf_48 (by decide) (fun c_48 => ?_) (fun c_48 => ?_)
  · have hc0 : ¬ cnt isNm l = 0 := fun z => c_48 (by rw [z, Nat.add_zero])
    refine l_Model_colonOf2 hT he (l.drop (cnt isNm l)) (b + cnt isNm l) (hol_drop hh _) (by rw [List.length_drop]; omega) ?_
    refine ev_iload_n d_Model_colonOf_76 rfl rfl ?_
    refine ev_iload_n d_Model_colonOf_77 rfl rfl ?_
    refine ev_icmp_ge (tgt := 96) d_Model_colonOf_78 (by decide) (fun c_78 => ?_) (fun c_78 => ?_)
    · refine ev_iconst (v := (-1)) d_Model_colonOf_96 (by decide) ?_
      refine ev_iret d_Model_colonOf_97 rfl ?_
      have hle := (nI_leI (by omega) (by omega)).mp c_78
      have e : clp l = none := by
        unfold clp
        rw [if_neg hc0, if_neg (by rw [List.getElem?_eq_none (by omega)]; intro z; cases z)]
      rw [cla, e]
      exact ⟨rfl, rfl⟩
    · have hlt : b + cnt isNm l + cnt isBl (l.drop (cnt isNm l)) < b + l.length := by
        rcases Nat.lt_or_ge (b + cnt isNm l + cnt isBl (l.drop (cnt isNm l))) (b + l.length) with q | q
        · exact q
        · exact absurd (nI_le q (by omega)) c_78
      have hin : vp_in (nI (b + cnt isNm l + cnt isBl (l.drop (cnt isNm l)))) (mo_len 2) := vp_in_nI (show _ < 1500 by omega) (by decide)
      have hat := hol_at hh (j := cnt isNm l + cnt isBl (l.drop (cnt isNm l))) (by omega)
      refine ev_aload_n d_Model_colonOf_81 rfl rfl ?_
      refine mo_get (fa_Model_13 rfl rfl) d_Model_colonOf_82 rfl ?_
      refine ev_iload_n d_Model_colonOf_85 rfl rfl ?_
      refine mo_ald hT d_Model_colonOf_86 (by decide) hin ?_
      refine ev_bipush (v := 58) d_Model_colonOf_87 (by decide) ?_
      rw [nI_clamp (by omega)]
      rw [← Nat.add_assoc] at hat
      refine ev_icmp_ne (tgt := 96) d_Model_colonOf_89 (by decide) (fun c_89 => ?_) (fun c_89 => ?_)
      · refine ev_iconst (v := (-1)) d_Model_colonOf_96 (by decide) ?_
        refine ev_iret d_Model_colonOf_97 rfl ?_
        have e : clp l = none := by
          unfold clp
          rw [if_neg hc0, if_neg (by rw [hat]; intro z; exact c_89 (Option.some.inj z))]
        rw [cla, e]
        exact ⟨rfl, rfl⟩
      · refine ev_iload_n d_Model_colonOf_92 rfl rfl ?_
        refine ev_goto (tgt := 97) d_Model_colonOf_93 (by decide) ?_
        refine ev_iret d_Model_colonOf_97 rfl ?_
        have e : clp l = some (cnt isNm l + cnt isBl (l.drop (cnt isNm l))) := by
          unfold clp
          rw [if_neg hc0, if_pos (by rw [hat, c_89])]
        rw [cla, e]
        refine ⟨?_, rfl⟩
        show some (Value.int (nI _)) = some (Value.int (nI _))
        rw [Nat.add_assoc]
  · refine ev_iconst (v := (-1)) d_Model_colonOf_51 (by decide) ?_
    refine ev_iret d_Model_colonOf_52 rfl ?_
    have hc0 : cnt isNm l = 0 := by
      have := (nI_eq (by omega) (by omega)).mp c_48
      omega
    have e : clp l = none := by
      unfold clp
      rw [if_pos hc0]
    rw [cla, e]
    exact ⟨rfl, rfl⟩
theorem l_Model_keep (hT : (gl_t G)[0]? = some (cI, .int)) {b e : Nat} (he : e ≤ 1500) : ∀ (t : List Int32) (k kl : Nat) (I : Nat → Int32) (R : Nat → Nat → Int32), hol (R 2) k t → k + t.length = e → I 11 = nI kl → kl + t.length ≤ 1600 →
    ev_E G m_Model_keep 2 [(0, .ref M), (1, .int (nI b)), (2, .int (nI e)), (3, .int (nI k))] [] (mo_ov cI cZ h0 M I R) (cn (fun h' => h' = mo_ov cI cZ h0 M (upd I 11 (nI (kl + t.length))) (va_up R 7 (cpl (R 7) kl t)))) := by
  intro t
  induction t with
  | nil =>
    intro k kl I R hh hl hI hkl
    refine ev_iload_n d_Model_keep_2 rfl rfl ?_
    refine ev_iload_n d_Model_keep_3 rfl rfl ?_
    refine ev_icmp_ge (tgt := 38) d_Model_keep_4 (by decide) (fun c_4 => ?_) (fun c_4 => ?_)
    · refine ev_vret d_Model_keep_38 rfl ?_
      refine ⟨rfl, ?_⟩
      rw [cpl_nil, up_same]
      congr 1
      funext j
      unfold upd
      by_cases hj : j = 11
      · rw [if_pos hj, hj, hI]; rfl
      · rw [if_neg hj]
    · exact absurd (nI_le (a := e) (b := k) (by simp at hl; omega) (by simp at hl; omega)) c_4
  | cons x t ih =>
    intro k kl I R hh hl hI hkl
    simp only [List.length_cons] at hl hkl
    obtain ⟨hx, ht⟩ := hol_cons hh
    have hx' : R 2 (nI k).toNatClampNeg = x := by rw [nI_clamp (by omega)]; exact hx
    have hin : vp_in (nI k) (mo_len 2) := vp_in_nI (show k < 1500 by omega) (by decide)
    have hin2 : vp_in (I 11) (mo_len 7) := by rw [hI]; exact vp_in_nI (show kl < 1600 by omega) (by decide)
    refine ev_iload_n d_Model_keep_2 rfl rfl ?_
    refine ev_iload_n d_Model_keep_3 rfl rfl ?_
    refine ev_icmp_ge (tgt := 38) d_Model_keep_4 (by decide) (fun c_4 => ?_) (fun c_4 => ?_)
    · exact absurd c_4 (nI_ge (a := k) (b := e) (by omega) (by omega))
    · refine ev_aload_n d_Model_keep_7 rfl rfl ?_
      refine mo_get (fa_Model_28 rfl rfl) d_Model_keep_8 rfl ?_
      refine ev_aload_n d_Model_keep_11 rfl rfl ?_
      refine mo_get (fa_Model_113 rfl rfl) d_Model_keep_12 rfl ?_
      refine ev_aload_n d_Model_keep_15 rfl rfl ?_
      refine mo_get (fa_Model_13 rfl rfl) d_Model_keep_16 rfl ?_
      refine ev_iload_n d_Model_keep_19 rfl rfl ?_
      refine mo_ald hT d_Model_keep_20 (by decide) hin ?_
      refine mo_ast hT d_Model_keep_21 (by decide) hin2 ?_
      refine ev_aload_n d_Model_keep_22 rfl rfl ?_
      refine ev_dup d_Model_keep_23 rfl ?_
      refine mo_get (fa_Model_113 rfl rfl) d_Model_keep_24 rfl ?_
      refine ev_iconst (v := 1) d_Model_keep_27 (by decide) ?_
      refine ev_iadd d_Model_keep_28 ?_
      refine mo_put (fp_Model_113 rfl rfl) d_Model_keep_29 (Nat.le_of_ble_eq_true rfl) rfl rfl rfl ?_
      refine ev_iinc d_Model_keep_32 rfl (by decide) ?_
      refine ev_goto (tgt := 2) d_Model_keep_35 (by decide) ?_
      rw [hx', hI, nI_clamp (by omega)]
      refine ev_as [(0, .ref M), (1, .int (nI b)), (2, .int (nI e)), (3, .int (nI (k + 1)))] ⟨rfl, rfl, rfl, ?_, trivial⟩ ?_
      · show some (Value.int (nI k + 1)) = _
        rw [nI_succ]
      · refine ev_to (ih (k + 1) (kl + 1) (upd I 11 (nI kl + 1)) (va_up R 7 (upd (R 7) kl x)) (by rw [up_ne (by decide)]; exact ht) (by omega) (by show (nI kl + 1 : Int32) = _; rw [nI_succ]) (by omega)) ?_
        rintro o h' ⟨rfl, rfl⟩
        refine ⟨rfl, ?_⟩
        rw [va_up_self, bx_uu, cpl_cons]
        congr 1
        funext j
        unfold upd
        by_cases hj : j = 11
        · rw [if_pos hj, if_pos hj, List.length_cons, show kl + 1 + t.length = kl + (t.length + 1) by omega]
        · rw [if_neg hj, if_neg hj, if_neg hj]
theorem c_Model_keep (hT : (gl_t G)[0]? = some (cI, .int)) {b kl : Nat} {t : List Int32} (hh : hol (R 2) b t) (hl : b + t.length ≤ 1500) (hI : I 11 = nI kl) (hkl : kl + t.length ≤ 1600) : ct_E G m_Model_keep [.ref M, .int (nI b), .int (nI (b + t.length))] (mo_ov cI cZ h0 M I R) (cn (fun h' => h' = mo_ov cI cZ h0 M (upd I 11 (nI (kl + t.length))) (va_up R 7 (cpl (R 7) kl t)))) := by
  refine ct_of (ws' := tb_all) rfl rfl (Nat.le_of_ble_eq_true rfl) ?_
  refine ev_iload_n d_Model_keep_0 rfl rfl ?_
  refine ev_istore_n d_Model_keep_1 rfl (by decide) ?_
  exact ev_as [(0, .ref M), (1, .int (nI b)), (2, .int (nI (b + t.length))), (3, .int (nI b))] ⟨rfl, rfl, rfl, rfl, trivial⟩ (l_Model_keep hT hl t b kl I R hh rfl hI hkl)
end FIELD
