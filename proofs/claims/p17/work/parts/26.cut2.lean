/-! the reference: cut -/
section CUT2
variable {G : gl_G} {cI cZ : ClassId} {h0 : hp_T} {M : Nat}
def cuP (cI cZ : ClassId) (h0 : hp_T) (M : Nat) (I0 : Nat → Int32) (R0 : Nat → Nat → Int32) (W : Wds) : hp_T → Prop := mS cI cZ h0 M (fun I' R' => wOk W I' R' ∧ sm [12, 18, 39] I0 I' ∧ sm [8, 9, 10, 11, 12] R0 R')
theorem l_Model_cut (hT : (gl_t G)[0]? = some (cI, .int)) {I0 : Nat → Int32} {R0 : Nat → Nat → Int32} {ty : Bool} {e : Nat} {f y : Int32} (he : e ≤ 1501) : ∀ (fu : Nat) (l : List Int32) (W : Wds) (I : Nat → Int32) (R : Nat → Nat → Int32), l.length ≤ fu → wOk W I R → l.length ≤ e → W.length + l.length ≤ 1501 → (wB W).length + l.length ≤ 1590 → hol (R 7) (e - l.length) l → I 39 = nI (e - l.length) → I 40 = nI e → I 41 = bI ty → sm [12, 18, 39] I0 I → sm [8, 9, 10, 11, 12] R0 R →
    ev_E G m_Model_cut 40 [(0, .ref M), (1, .int f), (2, .int y)] [] (mo_ov cI cZ h0 M I R) (cn (cuP cI cZ h0 M I0 R0 (W ++ wcut ty fu l))) := by
  intro fu
  induction fu with
  | zero =>
    intro l W I R hfu hW hle hWl hb hh hp hv hty hI hR
    have hl0 : l = [] := List.length_eq_zero_iff.mp (by omega)
    subst hl0
    refine ev_aload_n d_Model_cut_40 rfl rfl ?_
    refine mo_get (fa_Model_143 rfl rfl) d_Model_cut_41 rfl ?_
    refine ev_aload_n d_Model_cut_44 rfl rfl ?_
    refine mo_get (fa_Model_146 rfl rfl) d_Model_cut_45 rfl ?_
    rw [hp, hv]
    refine ev_icmp_ge (tgt := 172) d_Model_cut_48 (by decide) (fun c_48 => ?_) (fun c_48 => ?_)
    · refine ev_vret d_Model_cut_172 rfl ?_
      rw [show W ++ wcut ty 0 [] = W from List.append_nil _]
      exact ⟨rfl, I, R, rfl, hW, hI, hR⟩
    · exact absurd (nI_le (by simp) (by simp; omega)) c_48
  | succ fu ih =>
    intro l W I R hfu hW hle hWl hb hh hp hv hty hI hR
    cases l with
    | nil =>
      refine ev_aload_n d_Model_cut_40 rfl rfl ?_
      refine mo_get (fa_Model_143 rfl rfl) d_Model_cut_41 rfl ?_
      refine ev_aload_n d_Model_cut_44 rfl rfl ?_
      refine mo_get (fa_Model_146 rfl rfl) d_Model_cut_45 rfl ?_
      rw [hp, hv]
      refine ev_icmp_ge (tgt := 172) d_Model_cut_48 (by decide) (fun c_48 => ?_) (fun c_48 => ?_)
      · refine ev_vret d_Model_cut_172 rfl ?_
        rw [show W ++ wcut ty (fu + 1) [] = W from List.append_nil _]
        exact ⟨rfl, I, R, rfl, hW, hI, hR⟩
      · exact absurd (nI_le (by simp) (by simp; omega)) c_48
    | cons c t =>
      simp only [List.length_cons] at hfu hle hWl hb hh hp
      have hh' := hh
      obtain ⟨hx, ht⟩ := hol_cons hh
      rw [show e - (t.length + 1) + 1 = e - t.length by omega] at ht
      have hin7 : vp_in (I 39) (mo_len 7) := by rw [hp]; exact vp_in_nI (show _ < 1600 by omega) (by decide)
      have hc' : R 7 (I 39).toNatClampNeg = c := by rw [hp, nI_clamp (by omega)]; exact hx
      have ep : I 39 + 1 = nI (e - t.length) := by rw [hp, ← nI_succ]; congr 1; omega
      -- back to the head, behind a word or none
      have back : ∀ (W2 : Wds) (k : Nat) (I2 : Nat → Int32) (R2 : Nat → Nat → Int32) (bsl : Nat), wcut ty (fu + 1) (c :: t) = W2 ++ wcut ty fu ((c :: t).drop (k + 1)) → W2.length ≤ 1 → (wB W2).length = bsl → bsl + ((c :: t).drop (k + 1)).length ≤ t.length + 1 → wOk (W ++ W2) I2 R2 → I2 39 = nI (e - ((c :: t).drop (k + 1)).length) → sm [12, 18, 39] I I2 → sm [8, 9, 10, 11, 12] R R2 →
          ev_E G m_Model_cut 169 [(0, .ref M), (1, .int f), (2, .int y), (3, .int c)] [] (mo_ov cI cZ h0 M I2 R2) (cn (cuP cI cZ h0 M I0 R0 (W ++ wcut ty (fu + 1) (c :: t)))) := by
        intro W2 k I2 R2 bsl e0 hw2 hbs hlen hW2 hp2 hI2 hR2
        have hd : ((c :: t).drop (k + 1)).length ≤ t.length := by rw [List.length_drop, List.length_cons]; omega
        refine ev_goto (tgt := 40) d_Model_cut_169 (by decide) ?_
        refine ev_as [(0, .ref M), (1, .int f), (2, .int y)] ⟨rfl, rfl, rfl, trivial⟩ ?_
        have hhd : hol (R2 7) (e - ((c :: t).drop (k + 1)).length) ((c :: t).drop (k + 1)) := by
          rw [hR2 7 (by decide)]
          by_cases hk : k + 1 ≤ t.length + 1
          · have := hol_drop hh' (k + 1)
            rw [List.length_drop, List.length_cons]
            rw [show e - (t.length + 1 - (k + 1)) = e - (t.length + 1) + (k + 1) by omega]
            exact this
          · rw [List.drop_eq_nil_iff.mpr (by simp; omega)]
            exact hol_nil _ _
        have k9 := ih ((c :: t).drop (k + 1)) (W ++ W2) I2 R2 (by omega) hW2 (by omega) (by rw [List.length_append]; omega) (by
          have : wB (W ++ W2) = wB W ++ wB W2 := by simp [wB]
          rw [this, List.length_append, hbs]; omega) hhd hp2 (by rw [hI2 40 (by decide)]; exact hv) (by rw [hI2 41 (by decide)]; exact hty) (sm_tr hI hI2) (sm_tr hR hR2)
        rw [e0, ← List.append_assoc]
        exact k9
      refine ev_aload_n d_Model_cut_40 rfl rfl ?_
      refine mo_get (fa_Model_143 rfl rfl) d_Model_cut_41 rfl ?_
      refine ev_aload_n d_Model_cut_44 rfl rfl ?_
      refine mo_get (fa_Model_146 rfl rfl) d_Model_cut_45 rfl ?_
      refine ev_icmp_ge (tgt := 172) d_Model_cut_48 (by decide) (fun c_48 => ?_) (fun c_48 => ?_)
      · rw [hp, hv] at c_48
        exact absurd c_48 (nI_ge (by omega) (by omega))
      refine ev_aload_n d_Model_cut_51 rfl rfl ?_
      refine mo_get (fa_Model_28 rfl rfl) d_Model_cut_52 rfl ?_
      refine ev_aload_n d_Model_cut_55 rfl rfl ?_
      refine mo_get (fa_Model_143 rfl rfl) d_Model_cut_56 rfl ?_
      refine mo_ald hT d_Model_cut_59 (by decide) hin7 ?_
      refine ev_istore_n d_Model_cut_60 rfl (by decide) ?_
      rw [hc']
      refine ev_iload_n d_Model_cut_61 rfl rfl ?_
      refine ev_Sv [.int c] [] ca_Model_cut_169 d_Model_cut_62 rfl (Nat.le_of_ble_eq_true rfl) (c_Model_isNothing c) ?_
      refine ev_if_eq (tgt := 81) d_Model_cut_65 (by decide) (fun c_65 => ?_) (fun c_65 => ?_)
      · refine ev_iload_n d_Model_cut_81 rfl rfl ?_
        refine ev_bipush (v := 40) d_Model_cut_82 (by decide) ?_
        have encd : ∀ (k close : Int32), ct_E G m_Model_takeEnclosed [.ref M, .int k, .int close] (mo_ov cI cZ h0 M I R) (cn (teP cI cZ h0 M I R W k (encl (decide (k = 0)) close 1 t).1 (encl (decide (k = 0)) close 1 t).2 e)) := fun k close => c_Model_takeEnclosed hT he hW (by omega) (by omega) (by omega) ht hp hv k close
        have encb : ∀ (k close : Int32) (h1 : hp_T), wcut ty (fu + 1) (c :: t) = [(k, 0, (encl (decide (k = 0)) close 1 t).1)] ++ wcut ty fu (encl (decide (k = 0)) close 1 t).2 → teP cI cZ h0 M I R W k (encl (decide (k = 0)) close 1 t).1 (encl (decide (k = 0)) close 1 t).2 e h1 → ev_E G m_Model_cut 169 [(0, .ref M), (1, .int f), (2, .int y), (3, .int c)] [] h1 (cn (cuP cI cZ h0 M I0 R0 (W ++ wcut ty (fu + 1) (c :: t)))) := by
          rintro k close h1 e0 ⟨I2, R2, rfl, q1, q2, q3, q4⟩
          obtain ⟨n, hn⟩ := encl_suf (decide (k = 0)) close t.length 1 t (Nat.le_refl _)
          have hl9 := encl_len (decide (k = 0)) close t.length 1 t (Nat.le_refl _)
          have hdd : (encl (decide (k = 0)) close 1 t).2 = (c :: t).drop (n + 1) := by rw [hn]; rfl
          rw [hdd] at e0 q2 hl9
          refine back _ n I2 R2 _ e0 (by simp) rfl ?_ q1 q2 q3 q4
          have : wB [(k, 0, (encl (decide (k = 0)) close 1 t).1)] = (encl (decide (k = 0)) close 1 t).1 := by simp [wB]
          rw [this]
          omega
        refine ev_icmp_ne (tgt := 97) d_Model_cut_84 (by decide) (fun c_84 => ?_) (fun c_84 => ?_)
        · refine ev_iload_n d_Model_cut_97 rfl rfl ?_
          refine ev_bipush (v := 34) d_Model_cut_98 (by decide) ?_
          refine ev_icmp_ne (tgt := 113) d_Model_cut_100 (by decide) (fun c_100 => ?_) (fun c_100 => ?_)
          · refine ev_iload_n d_Model_cut_113 rfl rfl ?_
            refine ev_bipush (v := 91) d_Model_cut_114 (by decide) ?_
            refine ev_icmp_ne (tgt := 129) d_Model_cut_116 (by decide) (fun c_116 => ?_) (fun c_116 => ?_)
            · refine ev_aload_n d_Model_cut_129 rfl rfl ?_
              refine ev_iload_n d_Model_cut_130 rfl rfl ?_
              refine mo_Vv [.int c] [] ca_Model_cut_175 d_Model_cut_131 rfl (Nat.le_of_ble_eq_true rfl) (c_Model_isSign hty c) ?_
              refine ev_if_eq (tgt := 165) d_Model_cut_134 (by decide) (fun c_134 => ?_) (fun c_134 => ?_)
              · have hsg : isSg ty c = false := by
                  cases hq : isSg ty c with
                  | false => rfl
                  | true => rw [hq] at c_134; exact absurd c_134 (by decide)
                have hat : isAt ty c = true := decide_eq_true ⟨c_65, c_84, c_100, c_116, hsg⟩
                refine ev_aload_n d_Model_cut_165 rfl rfl ?_
                refine mo_Vn [] [] ca_Model_cut_178 d_Model_cut_166 rfl (Nat.le_of_ble_eq_true rfl) (c_Model_takeAtom (l := c :: t) hT he hW (by omega) (by simp; omega) (by simp; omega) (by simp only [List.length_cons]; exact hh') (by simp only [List.length_cons]; exact hp) hv hty) (fun h1 z => ?_)
                obtain ⟨I2, R2, rfl, q1, q2, q3, q4⟩ := z
                have e0 : wcut ty (fu + 1) (c :: t) = [(4, 0, (c :: t).take (cnt (isAt ty) (c :: t)))] ++ wcut ty fu ((c :: t).drop (cnt (isAt ty) (c :: t))) := by
                  show (if _ then _ else _) = _
                  rw [if_neg (fun z => z c_65), if_neg c_84, if_neg c_100, if_neg c_116, if_neg (by rw [hsg]; decide)]
                  rfl
                have ec : cnt (isAt ty) (c :: t) = cnt (isAt ty) t + 1 := cnt_yes hat
                have hcl := cnt_le (isAt ty) t
                rw [ec] at q1 q2 e0
                refine back _ _ I2 R2 _ e0 (by simp) rfl ?_ q1 q2 q3 q4
                have : wB [((4 : Int32), (0 : Int32), (c :: t).take (cnt (isAt ty) t + 1))] = (c :: t).take (cnt (isAt ty) t + 1) := by simp [wB]
                rw [this, List.length_take, List.length_drop, List.length_cons]
                omega
              · have hsg : isSg ty c = true := by
                  cases hq : isSg ty c with
                  | true => rfl
                  | false => rw [hq] at c_134; exact absurd rfl c_134
                refine ev_aload_n d_Model_cut_137 rfl rfl ?_
                refine ev_iconst (v := 3) d_Model_cut_138 (by decide) ?_
                refine ev_iload_n d_Model_cut_139 rfl rfl ?_
                refine mo_Vn [.int 3, .int c] [] ca_Model_cut_155 d_Model_cut_140 rfl (Nat.le_of_ble_eq_true rfl) (c_Model_beginWord hT hW (by omega) 3 c) (fun h1 z => ?_)
                obtain ⟨I2, R2, rfl, q1, rfl, q4⟩ := z
                refine ev_aload_n d_Model_cut_143 rfl rfl ?_
                refine ev_iload_n d_Model_cut_144 rfl rfl ?_
                refine mo_Vn [.int c] [] ca_Model_cut_158 d_Model_cut_145 rfl (Nat.le_of_ble_eq_true rfl) (c_Model_put hT q1 (by rw [List.length_nil]; omega) c) (fun h1 z => ?_)
                obtain ⟨I3, R3, rfl, s1, s2, s3, s4⟩ := z
                refine ev_aload_n d_Model_cut_148 rfl rfl ?_
                refine ev_dup d_Model_cut_149 rfl ?_
                refine mo_get (fa_Model_143 rfl rfl) d_Model_cut_150 rfl ?_
                refine ev_iconst (v := 1) d_Model_cut_153 (by decide) ?_
                refine ev_iadd d_Model_cut_154 ?_
                refine mo_put (fp_Model_143 rfl rfl) d_Model_cut_155 (Nat.le_of_ble_eq_true rfl) rfl rfl rfl ?_
                refine ev_aload_n d_Model_cut_158 rfl rfl ?_
                rw [show I3 39 + 1 = nI (e - t.length) by rw [s3]; exact ep]
                refine mo_Vn [] [] ca_Model_cut_162 d_Model_cut_159 rfl (Nat.le_of_ble_eq_true rfl) (c_Model_endWord hT (wIn_I (J := upd I3 39 (nI (e - t.length))) s1 rfl rfl) (by omega)) (fun h1 z => ?_)
                obtain ⟨I4, R4, rfl, u1, u2, u3, u4⟩ := z
                refine ev_goto (tgt := 169) d_Model_cut_162 (by decide) ?_
                have e0 : wcut ty (fu + 1) (c :: t) = [(3, c, [c])] ++ wcut ty fu ((c :: t).drop (0 + 1)) := by
                  show (if _ then _ else _) = _
                  rw [if_neg (fun z => z c_65), if_neg c_84, if_neg c_100, if_neg c_116, if_pos hsg]
                  rfl
                refine back _ 0 I4 R4 1 e0 (by simp) (by simp [wB]) (by simp; omega) u1 (by rw [u3]; rfl) ?_ ?_
                · exact sm_tr (sm_tr s2 (sm_upd (by decide))) u2
                · exact sm_tr (sm_tr q4 s4) u4
            · refine ev_aload_n d_Model_cut_119 rfl rfl ?_
              refine ev_iconst (v := 2) d_Model_cut_120 (by decide) ?_
              refine ev_bipush (v := 93) d_Model_cut_121 (by decide) ?_
              refine mo_Vn [.int 2, .int 93] [] ca_Model_cut_172 d_Model_cut_123 rfl (Nat.le_of_ble_eq_true rfl) (encd 2 93) (fun h1 z => ?_)
              refine ev_goto (tgt := 169) d_Model_cut_126 (by decide) ?_
              refine encb 2 93 h1 ?_ z
              show (if _ then _ else _) = _
              rw [if_neg (fun z => z c_65), if_neg c_84, if_neg c_100, if_pos c_116]
              rfl
          · refine ev_aload_n d_Model_cut_103 rfl rfl ?_
            refine ev_iconst (v := 1) d_Model_cut_104 (by decide) ?_
            refine ev_bipush (v := 34) d_Model_cut_105 (by decide) ?_
            refine mo_Vn [.int 1, .int 34] [] ca_Model_cut_172 d_Model_cut_107 rfl (Nat.le_of_ble_eq_true rfl) (encd 1 34) (fun h1 z => ?_)
            refine ev_goto (tgt := 169) d_Model_cut_110 (by decide) ?_
            refine encb 1 34 h1 ?_ z
            show (if _ then _ else _) = _
            rw [if_neg (fun z => z c_65), if_neg c_84, if_pos c_100]
            rfl
        · refine ev_aload_n d_Model_cut_87 rfl rfl ?_
          refine ev_iconst (v := 0) d_Model_cut_88 (by decide) ?_
          refine ev_bipush (v := 41) d_Model_cut_89 (by decide) ?_
          refine mo_Vn [.int 0, .int 41] [] ca_Model_cut_172 d_Model_cut_91 rfl (Nat.le_of_ble_eq_true rfl) (encd 0 41) (fun h1 z => ?_)
          refine ev_goto (tgt := 169) d_Model_cut_94 (by decide) ?_
          refine encb 0 41 h1 ?_ z
          show (if _ then _ else _) = _
          rw [if_neg (fun z => z c_65), if_pos c_84]
          rfl
      · refine ev_aload_n d_Model_cut_68 rfl rfl ?_
        refine ev_dup d_Model_cut_69 rfl ?_
        refine mo_get (fa_Model_143 rfl rfl) d_Model_cut_70 rfl ?_
        refine ev_iconst (v := 1) d_Model_cut_73 (by decide) ?_
        refine ev_iadd d_Model_cut_74 ?_
        refine mo_put (fp_Model_143 rfl rfl) d_Model_cut_75 (Nat.le_of_ble_eq_true rfl) rfl rfl rfl ?_
        refine ev_goto (tgt := 169) d_Model_cut_78 (by decide) ?_
        rw [ep]
        have e0 : wcut ty (fu + 1) (c :: t) = [] ++ wcut ty fu ((c :: t).drop (0 + 1)) := by
          show (if _ then _ else _) = _
          rw [if_pos c_65]
          rfl
        refine back [] 0 _ R 0 e0 (by simp) rfl (by simp) (by rw [List.append_nil]; exact wOk_I hW rfl rfl) rfl (sm_upd (by decide)) (sm_rf _ _)
/-- what a field's cut leaves -/
def cuQ (cI cZ : ClassId) (h0 : hp_T) (M : Nat) (I0 : Nat → Int32) (R0 : Nat → Nat → Int32) (ty : Bool) (v : List Int32) : hp_T → Prop := mS cI cZ h0 M (fun I' R' => wOk (wcut ty v.length v) I' R' ∧ I' 41 = bI ty ∧ sm [12, 18, 39, 40, 41] I0 I' ∧ sm [8, 9, 10, 11, 12] R0 R')
theorem c_Model_cut (hT : (gl_t G)[0]? = some (cI, .int)) {I : Nat → Int32} {R : Nat → Nat → Int32} {F : Flds} (hF : flds F R) (hF40 : F.length ≤ 40) (hk : (fK F).length ≤ 1501) {j : Nat} {q : List Int32 × List Int32} (hq : F[j]? = some q) (ty : Bool) : ct_E G m_Model_cut [.ref M, .int (nI j), .int (bI ty)] (mo_ov cI cZ h0 M I R) (cn (cuQ cI cZ h0 M I R ty q.2)) := by
  have hj := (List.getElem?_eq_some_iff.mp hq).1
  obtain ⟨na, va, r3, r5, b1, b2, n1, n2⟩ := flds_name hF hq
  have r6 := (hF.2 j q hq).2.2.2
  have hin : vp_in (nI j) (mo_len 5) := vp_in_nI (show j < 40 by omega) (by decide)
  have hbz : narrow .boolean (.int (bI ty)) = .int (bI ty) := by cases ty <;> rfl
  have hbf : fits .boolean (.int (bI ty)) = true := by cases ty <;> rfl
  refine ct_of (ws' := tb_all) rfl rfl (Nat.le_of_ble_eq_true rfl) ?_
  refine ev_aload_n d_Model_cut_0 rfl rfl ?_
  refine ev_iconst (v := 0) d_Model_cut_1 (by decide) ?_
  refine mo_put (fp_Model_149 rfl rfl) d_Model_cut_2 (Nat.le_of_ble_eq_true rfl) rfl rfl rfl ?_
  refine ev_aload_n d_Model_cut_5 rfl rfl ?_
  refine ev_iconst (v := 0) d_Model_cut_6 (by decide) ?_
  refine mo_put (fp_Model_152 rfl rfl) d_Model_cut_7 (Nat.le_of_ble_eq_true rfl) rfl rfl rfl ?_
  refine ev_aload_n d_Model_cut_10 rfl rfl ?_
  refine ev_iload_n d_Model_cut_11 rfl rfl ?_
  refine mo_put (fp_Model_165 rfl rfl) d_Model_cut_12 (Nat.le_of_ble_eq_true rfl) hbz hbf rfl ?_
  refine ev_aload_n d_Model_cut_15 rfl rfl ?_
  refine ev_aload_n d_Model_cut_16 rfl rfl ?_
  refine mo_get (fa_Model_22 rfl rfl) d_Model_cut_17 rfl ?_
  refine ev_iload_n d_Model_cut_20 rfl rfl ?_
  refine mo_ald hT d_Model_cut_21 (by decide) hin ?_
  rw [nI_clamp (by omega), r5]
  refine mo_put (fp_Model_143 rfl rfl) d_Model_cut_22 (Nat.le_of_ble_eq_true rfl) rfl rfl rfl ?_
  refine ev_aload_n d_Model_cut_25 rfl rfl ?_
  refine ev_aload_n d_Model_cut_26 rfl rfl ?_
  refine mo_get (fa_Model_143 rfl rfl) d_Model_cut_27 rfl ?_
  refine ev_aload_n d_Model_cut_30 rfl rfl ?_
  refine mo_get (fa_Model_25 rfl rfl) d_Model_cut_31 rfl ?_
  refine ev_iload_n d_Model_cut_34 rfl rfl ?_
  refine mo_ald hT d_Model_cut_35 (by decide) hin ?_
  rw [nI_clamp (by omega), r6]
  rw [show (upd (upd (upd (upd I 12 0) 18 0) 41 (bI ty)) 39 (nI va)) 39 = nI va from rfl]
  refine ev_iadd d_Model_cut_36 ?_
  refine mo_put (fp_Model_146 rfl rfl) d_Model_cut_37 (Nat.le_of_ble_eq_true rfl) rfl rfl rfl ?_
  rw [nI_add]
  refine ev_as [(0, .ref M), (1, .int (nI j)), (2, .int (bI ty))] ⟨rfl, rfl, rfl, trivial⟩ ?_
  refine ev_to (l_Model_cut (I0 := upd (upd (upd (upd (upd I 12 0) 18 0) 41 (bI ty)) 39 (nI va)) 40 (nI (va + q.2.length))) (R0 := R) (ty := ty) (e := va + q.2.length) hT (by omega) q.2.length q.2 [] _ R (Nat.le_refl _) ⟨rfl, rfl, hol_nil _ _, fun i w h => by simp at h⟩ (by omega) (by simp; omega) (by simp [wB]; omega) (by rw [Nat.add_sub_cancel]; exact n2) (by rw [Nat.add_sub_cancel]; rfl) rfl rfl (sm_rf _ _) (sm_rf _ _)) ?_
  rintro o h' ⟨rfl, I2, R2, rfl, q1, q2, q3⟩
  refine ⟨rfl, I2, R2, rfl, q1, by rw [q2 41 (by decide)]; rfl, ?_, q3⟩
  intro x hx
  rw [q2 x (fun z => hx (by revert z; simp; intro z; rcases z with z | z | z <;> simp [z]))]
  simp only [List.mem_cons, List.not_mem_nil, or_false, not_or] at hx
  rw [upd_ne hx.2.2.2.1, upd_ne hx.2.2.1, upd_ne hx.2.2.2.2, upd_ne hx.2.1, upd_ne hx.1]
end CUT2
