/-! the reference: fields, read -/
theorem upd_same {f : Nat → Int32} {k : Nat} {x y : Int32} : upd (upd f k x) k y = upd f k y := by
  funext j
  unfold upd
  by_cases h : j = k
  · rw [if_pos h, if_pos h]
  · rw [if_neg h, if_neg h, if_neg h]
theorem upd_comm {f : Nat → Int32} {k l : Nat} {x y : Int32} (h : k ≠ l) : upd (upd f k x) l y = upd (upd f l y) k x := by
  funext j
  unfold upd
  by_cases h1 : j = l
  · by_cases h2 : j = k
    · omega
    · rw [if_pos h1, if_neg h2, if_pos h1]
  · by_cases h2 : j = k
    · rw [if_neg h1, if_pos h2, if_pos h2]
    · rw [if_neg h1, if_neg h2, if_neg h2, if_neg h1]
theorem upd_id {f : Nat → Int32} {k : Nat} {x : Int32} (h : f k = x) : upd f k x = f := by
  funext j
  unfold upd
  by_cases hj : j = k
  · rw [if_pos hj, hj, h]
  · rw [if_neg hj]
theorem upd_at {f : Nat → Int32} {k : Nat} {x : Int32} : upd f k x k = x := if_pos rfl
theorem upd_ne {f : Nat → Int32} {k j : Nat} {x : Int32} (h : j ≠ k) : upd f k x j = f j := if_neg h
abbrev Flds : Type := List (List Int32 × List Int32)
/-- all that is kept: names and values one behind the other -/
def fK (F : Flds) : List Int32 := F.flatMap (fun q => q.1 ++ q.2)
theorem fK_snoc (F : Flds) (q : List Int32 × List Int32) : fK (F ++ [q]) = fK F ++ (q.1 ++ q.2) := by simp [fK]
/-- the rows hold the fields -/
def flds (F : Flds) (R : Nat → Nat → Int32) : Prop := hol (R 7) 0 (fK F) ∧ ∀ (i : Nat) (q : List Int32 × List Int32), F[i]? = some q → R 3 i = nI (fK (F.take i)).length ∧ R 4 i = nI q.1.length ∧ R 5 i = nI ((fK (F.take i)).length + q.1.length) ∧ R 6 i = nI q.2.length
theorem flds_nil (R : Nat → Nat → Int32) : flds [] R := ⟨hol_nil _ _, fun i q h => by simp at h⟩
theorem flds_same {F : Flds} {R R' : Nat → Nat → Int32} (h : flds F R) (h3 : R' 3 = R 3) (h4 : R' 4 = R 4) (h5 : R' 5 = R 5) (h6 : R' 6 = R 6) (h7 : R' 7 = R 7) : flds F R' := by
  refine ⟨by rw [h7]; exact h.1, fun i q hq => ?_⟩
  rw [h3, h4, h5, h6]
  exact h.2 i q hq
/-- a field more -/
theorem flds_add {F : Flds} {R R' : Nat → Nat → Int32} {nm vl : List Int32} (h : flds F R) (h3 : R' 3 = upd (R 3) F.length (nI (fK F).length)) (h4 : R' 4 = upd (R 4) F.length (nI nm.length)) (h5 : R' 5 = upd (R 5) F.length (nI ((fK F).length + nm.length))) (h6 : R' 6 = upd (R 6) F.length (nI vl.length)) (h7 : R' 7 = cpl (cpl (R 7) (fK F).length nm) ((fK F).length + nm.length) vl) : flds (F ++ [(nm, vl)]) R' := by
  refine ⟨?_, fun i q hq => ?_⟩
  · rw [h7, fK_snoc]
    refine hol_app (cpl_out (cpl_out h.1 (by omega)) (by omega)) (hol_app ?_ ?_)
    · rw [Nat.zero_add]
      exact cpl_out (cpl_hol _ _ _) (Nat.le_refl _)
    · rw [Nat.zero_add]
      exact cpl_hol _ _ _
  · rw [h3, h4, h5, h6]
    by_cases hi : i < F.length
    · rw [List.getElem?_append_left hi] at hq
      rw [List.take_append_of_le_length (by omega), upd_ne (by omega), upd_ne (by omega), upd_ne (by omega), upd_ne (by omega)]
      exact h.2 i q hq
    · have hi2 : i = F.length := by
        have := (List.getElem?_eq_some_iff.mp hq).1
        simp at this
        omega
      subst hi2
      rw [List.getElem?_append_right (Nat.le_refl _), Nat.sub_self] at hq
      cases hq
      rw [List.take_left', upd_at, upd_at, upd_at, upd_at]
      · exact ⟨rfl, rfl, rfl, rfl⟩
      · rfl
/-- more comes to the last value -/
theorem flds_more {F : Flds} {R R' : Nat → Nat → Int32} {nm vl xs : List Int32} (h : flds (F ++ [(nm, vl)]) R) (h3 : R' 3 = R 3) (h4 : R' 4 = R 4) (h5 : R' 5 = R 5) (h6 : R' 6 = upd (R 6) F.length (nI (vl.length + xs.length))) (h7 : R' 7 = cpl (R 7) (fK (F ++ [(nm, vl)])).length xs) : flds (F ++ [(nm, vl ++ xs)]) R' := by
  have e : fK (F ++ [(nm, vl ++ xs)]) = fK (F ++ [(nm, vl)]) ++ xs := by simp [fK]
  refine ⟨?_, fun i q hq => ?_⟩
  · rw [h7, e]
    refine hol_app (cpl_out h.1 (by omega)) ?_
    rw [Nat.zero_add]
    exact cpl_hol _ _ _
  · rw [h3, h4, h5, h6]
    by_cases hi : i < F.length
    · rw [List.getElem?_append_left hi] at hq
      have g := h.2 i q (by rw [List.getElem?_append_left hi]; exact hq)
      rw [List.take_append_of_le_length (by omega)] at g ⊢
      rw [upd_ne (by omega)]
      exact g
    · have hi2 : i = F.length := by
        have := (List.getElem?_eq_some_iff.mp hq).1
        simp at this
        omega
      subst hi2
      have g := h.2 F.length (nm, vl) (by rw [List.getElem?_append_right (Nat.le_refl _), Nat.sub_self]; rfl)
      rw [List.getElem?_append_right (Nat.le_refl _), Nat.sub_self] at hq
      cases hq
      rw [List.take_left' rfl] at g ⊢
      rw [upd_at]
      exact ⟨g.1, g.2.1, g.2.2.1, by rw [List.length_append]⟩
theorem mo_ex {cI cZ : ClassId} {h0 : hp_T} {M : Nat} {J J' : Nat → Int32} {R : Nat → Nat → Int32} {P : (Nat → Nat → Int32) → Prop} (hJ : J = J') (hP : P R) : ∃ R', mo_ov cI cZ h0 M J R = mo_ov cI cZ h0 M J' R' ∧ P R' := ⟨R, by rw [hJ], hP⟩
section READ
variable {G : gl_G} {cI cZ : ClassId} {h0 : hp_T} {M : Nat}
theorem l_Model_addField (hT : (gl_t G)[0]? = some (cI, .int)) {I : Nat → Int32} {R : Nat → Nat → Int32} {x y z : Int32} {Z : Option Value → hp_T → Prop} : ∀ (t : List Int32) (k : Nat), hol (R 2) k t → k + t.length ≤ 1500 → cnt isNm t < t.length →
    ev_E G m_Model_addField 45 [(0, .ref M), (1, .int x), (2, .int y), (3, .int z), (4, .int (nI (k + cnt isNm t)))] [] (mo_ov cI cZ h0 M I R) Z →
    ev_E G m_Model_addField 3 [(0, .ref M), (1, .int x), (2, .int y), (3, .int z), (4, .int (nI k))] [] (mo_ov cI cZ h0 M I R) Z := by
  intro t
  induction t with
  | nil => intro k hh hl hc K; simp [cnt] at hc
  | cons c t ih =>
    intro k hh hl hc K
    simp only [List.length_cons] at hl hc
    obtain ⟨hx, ht⟩ := hol_cons hh
    have hx' : R 2 (nI k).toNatClampNeg = c := by rw [nI_clamp (by omega)]; exact hx
    have hin : vp_in (nI k) (mo_len 2) := vp_in_nI (show k < 1500 by omega) (by decide)
    refine ev_aload_n d_Model_addField_3 rfl rfl ?_
    refine mo_get (fa_Model_13 rfl rfl) d_Model_addField_4 rfl ?_
    refine ev_iload d_Model_addField_7 rfl ?_
    refine mo_ald hT d_Model_addField_9 (by decide) hin ?_
    refine ev_bipush (v := 33) d_Model_addField_10 (by decide) ?_
    rw [hx']
    refine ev_icmp_lt (tgt := 45) d_Model_addField_12 (by decide) (fun c_12 => ?_) (fun c_12 => ?_)
    · rw [cnt_no (show isNm c = false from decide_eq_false (fun z => z.1 c_12))] at K
      exact K
    · refine ev_aload_n d_Model_addField_15 rfl rfl ?_
      refine mo_get (fa_Model_13 rfl rfl) d_Model_addField_16 rfl ?_
      refine ev_iload d_Model_addField_19 rfl ?_
      refine mo_ald hT d_Model_addField_21 (by decide) hin ?_
      refine ev_bipush (v := 126) d_Model_addField_22 (by decide) ?_
      rw [hx']
      refine ev_icmp_gt (tgt := 45) d_Model_addField_24 (by decide) (fun c_24 => ?_) (fun c_24 => ?_)
      · rw [cnt_no (show isNm c = false from decide_eq_false (fun z => z.2.1 c_24))] at K
        exact K
      · refine ev_aload_n d_Model_addField_27 rfl rfl ?_
        refine mo_get (fa_Model_13 rfl rfl) d_Model_addField_28 rfl ?_
        refine ev_iload d_Model_addField_31 rfl ?_
        refine mo_ald hT d_Model_addField_33 (by decide) hin ?_
        refine ev_bipush (v := 58) d_Model_addField_34 (by decide) ?_
        rw [hx']
        refine ev_icmp_eq (tgt := 45) d_Model_addField_36 (by decide) (fun c_36 => ?_) (fun c_36 => ?_)
        · rw [cnt_no (show isNm c = false from decide_eq_false (fun z => z.2.2 c_36))] at K
          exact K
        · refine ev_iinc d_Model_addField_39 rfl (by decide) ?_
          refine ev_goto (tgt := 3) d_Model_addField_42 (by decide) ?_
          have hy : isNm c = true := decide_eq_true ⟨c_12, c_24, c_36⟩
          rw [cnt_yes hy] at hc
          rw [cnt_yes hy, show k + (cnt isNm t + 1) = k + 1 + cnt isNm t by omega] at K
          refine ev_as [(0, .ref M), (1, .int x), (2, .int y), (3, .int z), (4, .int (nI (k + 1)))] ⟨rfl, rfl, rfl, rfl, ?_, trivial⟩ (ih (k + 1) ht (by omega) (by omega) K)
          show some (Value.int (nI k + 1)) = _
          rw [nI_succ]
/-- the field that a line tells -/
def lfd (l : List Int32) (c : Nat) : List Int32 × List Int32 := (l.take (cnt isNm l), l.drop (c + 1))
theorem c_Model_addField (hT : (gl_t G)[0]? = some (cI, .int)) {I : Nat → Int32} {R : Nat → Nat → Int32} {F : Flds} (hF : flds F R) {b c : Nat} {l : List Int32} (hh : hol (R 2) b l) (hl : b + l.length ≤ 1500) (hc : clp l = some c) (hI4 : I 4 = nI F.length) (hn : F.length < 40) (hI11 : I 11 = nI (fK F).length) (hkl : (fK F).length + l.length ≤ 1600) :
    ct_E G m_Model_addField [.ref M, .int (nI b), .int (nI (b + c)), .int (nI (b + l.length))] (mo_ov cI cZ h0 M I R) (cn (fun h' => ∃ R', h' = mo_ov cI cZ h0 M (upd (upd I 11 (nI (fK (F ++ [lfd l c])).length)) 4 (nI (F.length + 1))) R' ∧ flds (F ++ [lfd l c]) R' ∧ ∀ k, k ≠ 3 → k ≠ 4 → k ≠ 5 → k ≠ 6 → k ≠ 7 → R' k = R k)) := by
  obtain ⟨c1, c2, c3, c4⟩ := clp_lt hc
  have hlt : (l.take (cnt isNm l)).length = cnt isNm l := by rw [List.length_take]; omega
  have hld : (l.drop (c + 1)).length = l.length - (c + 1) := List.length_drop
  refine ct_of (ws' := tb_all) rfl rfl (Nat.le_of_ble_eq_true rfl) ?_
  refine ev_iload_n d_Model_addField_0 rfl rfl ?_
  refine ev_istore d_Model_addField_1 (by decide) ?_
  refine ev_as [(0, .ref M), (1, .int (nI b)), (2, .int (nI (b + c))), (3, .int (nI (b + l.length))), (4, .int (nI b))] ⟨rfl, rfl, rfl, rfl, rfl, trivial⟩ ?_
  refine l_Model_addField hT l b hh hl (by omega) ?_
  have hin3 : vp_in (I 4) (mo_len 3) := by rw [hI4]; exact vp_in_nI (show F.length < 40 by omega) (by decide)
  have cl4 : (I 4).toNatClampNeg = F.length := by rw [hI4, nI_clamp (by omega)]
  refine ev_aload_n d_Model_addField_45 rfl rfl ?_
  refine mo_get (fa_Model_16 rfl rfl) d_Model_addField_46 rfl ?_
  refine ev_aload_n d_Model_addField_49 rfl rfl ?_
  refine mo_get (fa_Model_116 rfl rfl) d_Model_addField_50 rfl ?_
  refine ev_aload_n d_Model_addField_53 rfl rfl ?_
  refine mo_get (fa_Model_113 rfl rfl) d_Model_addField_54 rfl ?_
  refine mo_ast hT d_Model_addField_57 (by decide) hin3 ?_
  rw [cl4]
  refine ev_aload_n d_Model_addField_58 rfl rfl ?_
  refine mo_get (fa_Model_19 rfl rfl) d_Model_addField_59 rfl ?_
  refine ev_aload_n d_Model_addField_62 rfl rfl ?_
  refine mo_get (fa_Model_116 rfl rfl) d_Model_addField_63 rfl ?_
  refine ev_iload d_Model_addField_66 rfl ?_
  refine ev_iload_n d_Model_addField_68 rfl rfl ?_
  refine ev_isub d_Model_addField_69 ?_
  refine mo_ast hT d_Model_addField_70 (by decide) hin3 ?_
  rw [cl4, pk_sub (by omega), show b + cnt isNm l - b = cnt isNm l by omega]
  refine ev_aload_n d_Model_addField_71 rfl rfl ?_
  refine ev_iload_n d_Model_addField_72 rfl rfl ?_
  refine ev_iload d_Model_addField_73 rfl ?_
  refine mo_Vn [.int (nI b), .int (nI (b + cnt isNm l))] [] ca_Model_addField_119 d_Model_addField_75 rfl (Nat.le_of_ble_eq_true rfl) (hlt ▸ c_Model_keep (t := l.take (cnt isNm l)) (b := b) hT (by rw [up_ne (by decide), up_ne (by decide)]; exact hol_take hh _) (by rw [hlt]; omega) hI11 (by rw [hlt]; omega)) (fun h1 z => ?_)
  subst z
  refine ev_aload_n d_Model_addField_78 rfl rfl ?_
  refine mo_get (fa_Model_22 rfl rfl) d_Model_addField_79 rfl ?_
  refine ev_aload_n d_Model_addField_82 rfl rfl ?_
  refine mo_get (fa_Model_116 rfl rfl) d_Model_addField_83 rfl ?_
  refine ev_aload_n d_Model_addField_86 rfl rfl ?_
  refine mo_get (fa_Model_113 rfl rfl) d_Model_addField_87 rfl ?_
  refine mo_ast hT d_Model_addField_90 (by decide) hin3 ?_
  rw [show (upd I 11 (nI ((fK F).length + cnt isNm l))) 4 = I 4 from rfl, cl4]
  refine ev_aload_n d_Model_addField_91 rfl rfl ?_
  refine mo_get (fa_Model_25 rfl rfl) d_Model_addField_92 rfl ?_
  refine ev_aload_n d_Model_addField_95 rfl rfl ?_
  refine mo_get (fa_Model_116 rfl rfl) d_Model_addField_96 rfl ?_
  refine ev_iload_n d_Model_addField_99 rfl rfl ?_
  refine ev_iload_n d_Model_addField_100 rfl rfl ?_
  refine ev_isub d_Model_addField_101 ?_
  refine ev_iconst (v := 1) d_Model_addField_102 (by decide) ?_
  refine ev_isub d_Model_addField_103 ?_
  refine mo_ast hT d_Model_addField_104 (by decide) hin3 ?_
  rw [show (upd I 11 (nI ((fK F).length + cnt isNm l))) 4 = I 4 from rfl, cl4, pk_sub (by omega), show nI (b + l.length - (b + c)) - 1 = nI (l.length - (c + 1)) by rw [show b + l.length - (b + c) = (l.length - (c + 1)) + 1 by omega, nI_pred]]
  refine ev_aload_n d_Model_addField_105 rfl rfl ?_
  refine ev_iload_n d_Model_addField_106 rfl rfl ?_
  refine ev_iconst (v := 1) d_Model_addField_107 (by decide) ?_
  refine ev_iadd d_Model_addField_108 ?_
  refine ev_iload_n d_Model_addField_109 rfl rfl ?_
  rw [show nI (b + c) + 1 = nI (b + (c + 1)) by rw [← nI_succ]; rfl]
  have hhv : hol (R 2) (b + (c + 1)) (l.drop (c + 1)) := hol_drop hh _
  have ee : b + l.length = b + (c + 1) + (l.drop (c + 1)).length := by rw [hld]; omega
  refine mo_Vn [.int (nI (b + (c + 1))), .int (nI (b + l.length))] [] ca_Model_addField_119 d_Model_addField_110 rfl (Nat.le_of_ble_eq_true rfl) (ee ▸ c_Model_keep (t := l.drop (c + 1)) (b := b + (c + 1)) (kl := (fK F).length + cnt isNm l) hT (by exact hhv) (by rw [hld]; omega) (by rfl) (by rw [hld]; omega)) (fun h1 z => ?_)
  subst z
  refine ev_aload_n d_Model_addField_113 rfl rfl ?_
  refine ev_dup d_Model_addField_114 rfl ?_
  refine mo_get (fa_Model_116 rfl rfl) d_Model_addField_115 rfl ?_
  refine ev_iconst (v := 1) d_Model_addField_118 (by decide) ?_
  refine ev_iadd d_Model_addField_119 ?_
  refine mo_put (fp_Model_116 rfl rfl) d_Model_addField_120 (Nat.le_of_ble_eq_true rfl) rfl rfl rfl ?_
  refine ev_vret d_Model_addField_123 rfl ?_
  refine ⟨rfl, mo_ex ?_ ⟨?_, ?_⟩⟩
  · rw [hld]
    rw [upd_same]
    have e9 : (fK (F ++ [lfd l c])).length = (fK F).length + cnt isNm l + (l.length - (c + 1)) := by
      rw [fK_snoc, List.length_append, List.length_append]
      show _ + ((l.take (cnt isNm l)).length + (l.drop (c + 1)).length) = _
      rw [hlt, hld]
      omega
    rw [e9]
    have e10 : (upd I 11 (nI ((fK F).length + cnt isNm l + (l.length - (c + 1))))) 4 + 1 = nI (F.length + 1) := by
      show I 4 + 1 = _
      rw [hI4, nI_succ]
    rw [e10]
  · refine flds_add hF ?_ ?_ ?_ ?_ ?_
    · show upd (R 3) F.length (I 11) = _
      rw [hI11]
    · show upd (R 4) F.length (nI (cnt isNm l)) = _
      rw [hlt]
    · show upd (R 5) F.length (nI ((fK F).length + cnt isNm l)) = _
      rw [hlt]
    · show upd (R 6) F.length (nI (l.length - (c + 1))) = _
      rw [hld]
    · show cpl (cpl (R 7) (fK F).length (l.take (cnt isNm l))) ((fK F).length + cnt isNm l) (l.drop (c + 1)) = _
      rw [hlt]
  · intro k k3 k4 k5 k6 k7
    rw [up_ne k7, up_ne k6, up_ne k5, up_ne k7, up_ne k4, up_ne k3]
end READ
