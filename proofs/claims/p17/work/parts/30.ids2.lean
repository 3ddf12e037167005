/-! the reference: identities, whole -/
theorem up_up {α : Type} (f : Nat → α) (k : Nat) (v w : α) : va_up (va_up f k v) k w = va_up f k w := bx_uu f k v w
section IDS2
variable {G : gl_G} {cI cZ : ClassId} {h0 : hp_T} {M : Nat} {I : Nat → Int32}
def idP (cI cZ : ClassId) (h0 : hp_T) (M : Nat) (I : Nat → Int32) (R : Nat → Nat → Int32) (P : Pts) (ml : Nat → Nat) (ids : List (List Int32)) : Value → hp_T → Prop := fun v h' => v = .int (nI ids.length) ∧ ∃ R' m, h' = mo_ov cI cZ h0 M I R' ∧ pOk (va_up P 4 ids) (upN ml 1 m) R' ∧ sm [13, 14, 15, 16, 17] R R'
theorem l_Model_ids (hT : (gl_t G)[0]? = some (cI, .int)) {P : Pts} {ml : Nat → Nat} {e : Nat} {f : Int32} (he : e ≤ 1501) : ∀ (fu : Nat) (l : List Int32) (k : Nat) (ids : List (List Int32)) (m : Nat) (R : Nat → Nat → Int32), l.length ≤ fu → hol (R 7) k l → (k + l.length = e ∨ (l = [] ∧ e ≤ k)) → k ≤ 1502 → pOk (va_up P 4 ids) (upN ml 1 m) R → 2 * ids.length + l.length ≤ 1510 → m + l.length ≤ 1510 →
    ev_E G m_Model_identities 49 [(0, .ref M), (1, .int f), (2, .int (nI k)), (3, .int (nI e))] [] (mo_ov cI cZ h0 M I R) (cr (idP cI cZ h0 M I R P ml (ids ++ idS fu l))) := by
  intro fu
  induction fu with
  | zero =>
    intro l k ids m R hfu hh hl hk hP hc hm
    have hl0 : l = [] := List.length_eq_zero_iff.mp (by omega)
    subst hl0
    have hin : vp_in (4 : Int32) (mo_len 15) := vp_in_nI (n := 4) (show 4 < 7 by decide) (by decide)
    have h15 := (hP.2 4 (by decide)).1
    rw [va_up_self] at h15
    refine ev_iload_n d_Model_identities_49 rfl rfl ?_
    refine ev_iload_n d_Model_identities_50 rfl rfl ?_
    refine ev_icmp_ge (tgt := 238) d_Model_identities_51 (by decide) (fun c_51 => ?_) (fun c_51 => ?_)
    · refine ev_aload_n d_Model_identities_238 rfl rfl ?_
      refine mo_get (fa_Model_52 rfl rfl) d_Model_identities_239 rfl ?_
      refine ev_iconst (v := 4) d_Model_identities_242 (by decide) ?_
      refine mo_ald hT d_Model_identities_243 (by decide) hin ?_
      refine ev_iret d_Model_identities_244 rfl ?_
      rw [show R 15 (4 : Int32).toNatClampNeg = nI ids.length from h15, show ids ++ idS 0 [] = ids from List.append_nil _]
      exact ⟨_, rfl, rfl, R, m, rfl, hP, sm_rf _ _⟩
    · exact absurd (nI_le (a := e) (b := k) (by simp at hl; omega) (by omega)) c_51
  | succ fu ih =>
    intro l k ids m R hfu hh hl hk hP hc hm
    have h15 := (hP.2 4 (by decide)).1
    rw [va_up_self] at h15
    refine ev_iload_n d_Model_identities_49 rfl rfl ?_
    refine ev_iload_n d_Model_identities_50 rfl rfl ?_
    refine ev_icmp_ge (tgt := 238) d_Model_identities_51 (by decide) (fun c_51 => ?_) (fun c_51 => ?_)
    · have hl0 : l = [] := by
        have := (nI_leI (by omega) (by omega)).mp c_51
        rcases hl with q | q
        · exact List.length_eq_zero_iff.mp (by omega)
        · exact q.1
      subst hl0
      have hin : vp_in (4 : Int32) (mo_len 15) := vp_in_nI (n := 4) (show 4 < 7 by decide) (by decide)
      refine ev_aload_n d_Model_identities_238 rfl rfl ?_
      refine mo_get (fa_Model_52 rfl rfl) d_Model_identities_239 rfl ?_
      refine ev_iconst (v := 4) d_Model_identities_242 (by decide) ?_
      refine mo_ald hT d_Model_identities_243 (by decide) hin ?_
      refine ev_iret d_Model_identities_244 rfl ?_
      rw [show R 15 (4 : Int32).toNatClampNeg = nI ids.length from h15, show ids ++ idS (fu + 1) [] = ids from List.append_nil _]
      exact ⟨_, rfl, rfl, R, m, rfl, hP, sm_rf _ _⟩
    · have hlt : k < e := by
        rcases Nat.lt_or_ge k e with q | q
        · exact q
        · exact absurd (nI_le q (by omega)) c_51
      have hl1 : k + l.length = e := by
        rcases hl with q | q
        · exact q
        · omega
      have hne : l ≠ [] := fun z => by rw [z] at hl1; simp at hl1; omega
      have hs := cnt_le (neq 60) l
      have hrl : (l.drop (cnt (neq 60) l)).length = l.length - cnt (neq 60) l := List.length_drop
      have hhr : hol (R 7) (k + cnt (neq 60) l) (l.drop (cnt (neq 60) l)) := hol_drop hh _
      have hc2 := cnt_le (neq 62) (l.drop (cnt (neq 60) l))
      have eid : idS (fu + 1) l = (if cnt (neq 62) (l.drop (cnt (neq 60) l)) < (l.drop (cnt (neq 60) l)).length ∧ anyBl (((l.drop (cnt (neq 60) l)).take (cnt (neq 62) (l.drop (cnt (neq 60) l)))).drop 1) = false ∧ 2 ≤ cnt (neq 62) (l.drop (cnt (neq 60) l)) ∧ cnt (neq 62) (l.drop (cnt (neq 60) l)) ≤ 101 then [((l.drop (cnt (neq 60) l)).take (cnt (neq 62) (l.drop (cnt (neq 60) l)))).drop 1] else []) ++ idS fu ((l.drop (cnt (neq 60) l)).drop (cnt (neq 62) (l.drop (cnt (neq 60) l)) + 1)) := by
        show (if _ then _ else _) = _
        rw [if_neg hne]
      generalize hs0 : cnt (neq 60) l = s at *
      generalize hr0 : l.drop s = r at *
      generalize hc0 : cnt (neq 62) r = c at *
      have hbl : ((r.take c).drop 1).length = c - 1 := by rw [List.length_drop, List.length_take]; omega
      have hhb : hol (R 7) (k + s + 1) ((r.take c).drop 1) := hol_drop (hol_take hhr _) 1
      -- back to the head
      have back : ∀ (ids2 : List (List Int32)) (m2 : Nat) (R2 : Nat → Nat → Int32) (z6 z7 : Int32) (lv8 : List (Nat × Value)), ids ++ idS (fu + 1) l = ids2 ++ idS fu (r.drop (c + 1)) → pOk (va_up P 4 ids2) (upN ml 1 m2) R2 → 2 * ids2.length + (r.drop (c + 1)).length ≤ 1510 → m2 + (r.drop (c + 1)).length ≤ 1510 → sm [13, 14, 15, 16, 17] R R2 →
          ev_E G m_Model_identities 230 ([(0, .ref M), (1, .int f), (2, .int (nI k)), (3, .int (nI e)), (4, .int (nI (k + s))), (5, .int (nI (k + s + c))), (6, .int z6), (7, .int z7)] ++ lv8) [] (mo_ov cI cZ h0 M I R2) (cr (idP cI cZ h0 M I R P ml (ids ++ idS (fu + 1) l))) := by
        intro ids2 m2 R2 z6 z7 lv8 e0 hP2 b1 b2 hR2
        refine ev_as [(0, .ref M), (1, .int f), (2, .int (nI k)), (3, .int (nI e)), (4, .int (nI (k + s))), (5, .int (nI (k + s + c)))] ⟨rfl, rfl, rfl, rfl, rfl, rfl, trivial⟩ ?_
        refine ev_iload d_Model_identities_230 rfl ?_
        refine ev_iconst (v := 1) d_Model_identities_232 (by decide) ?_
        refine ev_iadd d_Model_identities_233 ?_
        refine ev_istore_n d_Model_identities_234 rfl (by decide) ?_
        refine ev_goto (tgt := 49) d_Model_identities_235 (by decide) ?_
        rw [e0]
        refine ev_as [(0, .ref M), (1, .int f), (2, .int (nI (k + s + (c + 1)))), (3, .int (nI e))] ⟨rfl, rfl, ?_, rfl, trivial⟩ ?_
        · show some (Value.int (nI (k + s + c) + 1)) = _
          rw [← nI_succ, Nat.add_assoc]
        · refine ev_to (ih (r.drop (c + 1)) (k + s + (c + 1)) ids2 m2 R2 (by rw [List.length_drop]; omega) (by rw [hR2 7 (by decide)]; exact hol_drop hhr _) ?_ (by omega) hP2 b1 b2) ?_
          · rw [List.length_drop]
            by_cases q : c + 1 ≤ r.length
            · left; omega
            · right; exact ⟨List.drop_eq_nil_iff.mpr (by omega), by omega⟩
          · rintro o h' ⟨v, rfl, hv, R', m', hh', hp', hr'⟩
            exact ⟨v, rfl, hv, R', m', hh', hp', sm_tr hR2 hr'⟩
      have no : ¬ (c < r.length ∧ anyBl ((r.take c).drop 1) = false ∧ 2 ≤ c ∧ c ≤ 101) → ids ++ idS (fu + 1) l = ids ++ idS fu (r.drop (c + 1)) := by
        intro z
        rw [eid, if_neg z]
        rfl
      have hdl : (r.drop (c + 1)).length ≤ l.length := by rw [List.length_drop]; omega
      refine ev_iload_n d_Model_identities_54 rfl rfl ?_
      refine ev_istore d_Model_identities_55 (by decide) ?_
      refine ev_as [(0, .ref M), (1, .int f), (2, .int (nI k)), (3, .int (nI e)), (4, .int (nI k))] ⟨rfl, rfl, rfl, rfl, rfl, trivial⟩ ?_
      refine l_Model_id1 hT he l k hh hl1 ?_
      rw [hs0]
      refine ev_iload d_Model_identities_81 rfl ?_
      refine ev_istore d_Model_identities_83 (by decide) ?_
      refine ev_as [(0, .ref M), (1, .int f), (2, .int (nI k)), (3, .int (nI e)), (4, .int (nI (k + s))), (5, .int (nI (k + s)))] ⟨rfl, rfl, rfl, rfl, rfl, rfl, trivial⟩ ?_
      refine l_Model_id2 hT he r (k + s) hhr (by omega) ?_
      rw [hc0]
      refine ev_iconst (v := 0) d_Model_identities_109 (by decide) ?_
      refine ev_istore d_Model_identities_110 (by decide) ?_
      refine ev_iload d_Model_identities_112 rfl ?_
      refine ev_iconst (v := 1) d_Model_identities_114 (by decide) ?_
      refine ev_iadd d_Model_identities_115 ?_
      refine ev_istore d_Model_identities_116 (by decide) ?_
      have l3 : ∀ z : Int32, ev_E G m_Model_identities 156 [(0, .ref M), (1, .int f), (2, .int (nI k)), (3, .int (nI e)), (4, .int (nI (k + s))), (5, .int (nI (k + s + c))), (6, .int (bI (false || anyBl ((r.take c).drop 1)))), (7, .int z)] [] (mo_ov cI cZ h0 M I R) (cr (idP cI cZ h0 M I R P ml (ids ++ idS (fu + 1) l))) := by
        intro z
        rw [Bool.false_or]
        by_cases hc0' : c = 0
        · -- no < at all
          have en : nI (k + s + c) - nI (k + s) - 1 = (-1 : Int32) := by
            rw [hc0', Nat.add_zero, Int32.sub_self]; decide
          refine ev_iload d_Model_identities_156 rfl ?_
          refine ev_iload d_Model_identities_158 rfl ?_
          refine ev_isub d_Model_identities_160 ?_
          refine ev_iconst (v := 1) d_Model_identities_161 (by decide) ?_
          refine ev_isub d_Model_identities_162 ?_
          refine ev_istore d_Model_identities_163 (by decide) ?_
          rw [en]
          have b9 := back ids m R (bI (anyBl ((r.take c).drop 1))) (-1) [] (no (fun z => by omega)) hP (by omega) (by omega) (sm_rf _ _)
          refine ev_iload d_Model_identities_165 rfl ?_
          refine ev_iload_n d_Model_identities_167 rfl rfl ?_
          refine ev_icmp_ge (tgt := 230) d_Model_identities_168 (by decide) (fun c_168 => ?_) (fun c_168 => ?_)
          · exact b9
          · refine ev_iload d_Model_identities_171 rfl ?_
            refine ev_if_ne (tgt := 230) d_Model_identities_173 (by decide) (fun c_173 => ?_) (fun c_173 => ?_)
            · exact b9
            · refine ev_iload d_Model_identities_176 rfl ?_
              refine ev_iconst (v := 1) d_Model_identities_178 (by decide) ?_
              refine ev_icmp_lt (tgt := 230) d_Model_identities_179 (by decide) (fun c_179 => ?_) (fun c_179 => ?_)
              · exact b9
              · exact absurd (by decide) c_179
        · have en : nI (k + s + c) - nI (k + s) - 1 = nI (c - 1) := by
            rw [pk_sub (by omega), show k + s + c - (k + s) = (c - 1) + 1 by omega, nI_pred]
          refine ev_iload d_Model_identities_156 rfl ?_
          refine ev_iload d_Model_identities_158 rfl ?_
          refine ev_isub d_Model_identities_160 ?_
          refine ev_iconst (v := 1) d_Model_identities_161 (by decide) ?_
          refine ev_isub d_Model_identities_162 ?_
          refine ev_istore d_Model_identities_163 (by decide) ?_
          rw [en]
          have b9 := fun z => back ids m R (bI (anyBl ((r.take c).drop 1))) (nI (c - 1)) [] (no z) hP (by omega) (by omega) (sm_rf _ _)
          refine ev_iload d_Model_identities_165 rfl ?_
          refine ev_iload_n d_Model_identities_167 rfl rfl ?_
          refine ev_icmp_ge (tgt := 230) d_Model_identities_168 (by decide) (fun c_168 => ?_) (fun c_168 => ?_)
          · exact b9 (fun z => absurd c_168 (nI_ge (by omega) (by omega)))
          · refine ev_iload d_Model_identities_171 rfl ?_
            refine ev_if_ne (tgt := 230) d_Model_identities_173 (by decide) (fun c_173 => ?_) (fun c_173 => ?_)
            · refine b9 (fun z => c_173 ?_)
              rw [z.2.1]; rfl
            · refine ev_iload d_Model_identities_176 rfl ?_
              refine ev_iconst (v := 1) d_Model_identities_178 (by decide) ?_
              refine ev_icmp_lt (tgt := 230) d_Model_identities_179 (by decide) (fun c_179 => ?_) (fun c_179 => ?_)
              · refine b9 (fun z => absurd c_179 ?_)
                exact nI_nlt (a := c - 1) (b := 1) (by omega) (by omega)
              · refine ev_iload d_Model_identities_182 rfl ?_
                refine ev_bipush (v := 100) d_Model_identities_184 (by decide) ?_
                refine ev_icmp_gt (tgt := 230) d_Model_identities_186 (by decide) (fun c_186 => ?_) (fun c_186 => ?_)
                · refine b9 (fun z => absurd c_186 ?_)
                  exact nI_nlt (a := 100) (b := c - 1) (by omega) (by omega)
                · have g1 : c < r.length := by
                    rcases Nat.lt_or_ge c r.length with q | q
                    · exact q
                    · exact absurd (nI_le (by omega) (by omega)) c_168
                  have g2 : anyBl ((r.take c).drop 1) = false := by
                    cases hq : anyBl ((r.take c).drop 1) with
                    | false => rfl
                    | true => rw [hq] at c_173; exact absurd c_173 (by decide)
                  have g3 : 2 ≤ c := by
                    rcases Nat.lt_or_ge c 2 with q | q
                    · exact absurd (nI_lt (a := c - 1) (b := 1) (by omega) (by omega)) c_179
                    · exact q
                  have g4 : c ≤ 101 := by
                    rcases Nat.lt_or_ge 101 c with q | q
                    · exact absurd (nI_lt (a := 100) (b := c - 1) (by omega) (by omega)) c_186
                    · exact q
                  refine ev_aload_n d_Model_identities_189 rfl rfl ?_
                  refine ev_iconst (v := 4) d_Model_identities_190 (by decide) ?_
                  refine mo_Vn [.int (nI 4)] [] ca_Model_identities_204 d_Model_identities_191 rfl (Nat.le_of_ble_eq_true rfl) (c_Model_beginPart (w := 4) hT hP (by decide) (by rw [va_up_self]; omega)) (fun h1 z => ?_)
                  obtain ⟨R2, rfl, q1, q2⟩ := z
                  refine ev_iload d_Model_identities_194 rfl ?_
                  refine ev_iconst (v := 1) d_Model_identities_196 (by decide) ?_
                  refine ev_iadd d_Model_identities_197 ?_
                  refine ev_istore d_Model_identities_198 (by decide) ?_
                  refine ev_as [(0, .ref M), (1, .int f), (2, .int (nI k)), (3, .int (nI e)), (4, .int (nI (k + s))), (5, .int (nI (k + s + c))), (6, .int (bI (anyBl ((r.take c).drop 1)))), (7, .int (nI (c - 1))), (8, .int (nI (k + s + 1)))] ⟨rfl, rfl, rfl, rfl, rfl, rfl, rfl, rfl, ?_, trivial⟩ ?_
                  · show some (Value.int (nI (k + s) + 1)) = _
                    rw [← nI_succ]
                  · refine l_Model_id4 (P := va_up P 4 ids) (ml := ml) hT (by omega) ((r.take c).drop 1) (k + s + 1) [] m R2 (by rw [q2 7 (by decide)]; exact hhb) (by rw [hbl]; omega) q1 (by rw [hbl]; omega) (fun R3 z s1 s2 => ?_)
                    rw [List.nil_append] at s1
                    refine ev_aload_n d_Model_identities_225 rfl rfl ?_
                    refine ev_iconst (v := 4) d_Model_identities_226 (by decide) ?_
                    refine mo_Vn [.int (nI 4)] [] ca_Model_identities_210 d_Model_identities_227 rfl (Nat.le_of_ble_eq_true rfl) (c_Model_endPart (w := 4) hT (by decide) s1) (fun h1 z => ?_)
                    obtain ⟨R4, rfl, t1, t2⟩ := z
                    rw [va_up_self, up_up] at t1
                    refine back (ids ++ [(r.take c).drop 1]) (m + ((r.take c).drop 1).length) R4 (bI (anyBl ((r.take c).drop 1))) (nI (c - 1)) [(8, .int _)] ?_ t1 ?_ ?_ (sm_tr (sm_tr q2 s2) t2)
                    · rw [eid, if_pos ⟨g1, g2, g3, g4⟩, List.append_assoc]
                    · rw [List.length_append, List.length_singleton, List.length_drop]; omega
                    · rw [hbl, List.length_drop]; omega
      refine ev_as [(0, .ref M), (1, .int f), (2, .int (nI k)), (3, .int (nI e)), (4, .int (nI (k + s))), (5, .int (nI (k + s + c))), (6, .int (bI false)), (7, .int (nI (k + s + 1)))] ⟨rfl, rfl, rfl, rfl, rfl, rfl, rfl, ?_, trivial⟩ ?_
      · show some (Value.int (nI (k + s) + 1)) = _
        rw [← nI_succ]
      · by_cases hc0' : c = 0
        · -- the loop over nothing
          refine ev_iload d_Model_identities_118 rfl ?_
          refine ev_iload d_Model_identities_120 rfl ?_
          refine ev_icmp_ge (tgt := 156) d_Model_identities_122 (by decide) (fun c_122 => ?_) (fun c_122 => ?_)
          · have k9 := l3 (nI (k + s + 1))
            have e8 : (r.take c).drop 1 = [] := List.length_eq_zero_iff.mp (by rw [hbl]; omega)
            rw [e8] at k9
            exact k9
          · exact absurd (nI_le (by omega) (by omega)) c_122
        · exact l_Model_id3 hT (by omega) ((r.take c).drop 1) (k + s + 1) false hhb (by rw [hbl]; omega) l3
theorem c_Model_identities (hT : (gl_t G)[0]? = some (cI, .int)) {R : Nat → Nat → Int32} {P : Pts} {ml : Nat → Nat} {F : Flds} (hF : flds F R) (hI4 : I 4 = nI F.length) (hF40 : F.length ≤ 40) (hk : (fK F).length ≤ 1501) (hP : pOk P ml R) (f : Int32) : ct_E G m_Model_identities [.ref M, .int f] (mo_ov cI cZ h0 M I R) (cr (fun v h' => (sp_isField (nI F.length) f = 0 ∧ v = .int 0 ∧ h' = mo_ov cI cZ h0 M (upd I 0 1) R) ∨ ∃ (j : Nat) (q : List Int32 × List Int32), f = nI j ∧ F[j]? = some q ∧ idP cI cZ h0 M (upd I 0 0) R P ml (idS q.2.length q.2) v h')) := by
  refine ct_of (ws' := tb_all) rfl rfl (Nat.le_of_ble_eq_true rfl) ?_
  refine ev_aload_n d_Model_identities_0 rfl rfl ?_
  refine ev_aload_n d_Model_identities_1 rfl rfl ?_
  refine ev_iload_n d_Model_identities_2 rfl rfl ?_
  refine mo_Vv [.int f] [.ref M] ca_Model_identities_137 d_Model_identities_3 rfl (Nat.le_of_ble_eq_true rfl) (c_Model_isField f) ?_
  rw [hI4]
  refine ev_if_eq (tgt := 13) d_Model_identities_6 (by decide) (fun c_6 => ?_) (fun c_6 => ?_)
  · refine ev_iconst (v := 1) d_Model_identities_13 (by decide) ?_
    refine mo_put (fp_Model_99 rfl rfl) d_Model_identities_14 (Nat.le_of_ble_eq_true rfl) rfl rfl rfl ?_
    refine ev_aload_n d_Model_identities_17 rfl rfl ?_
    refine mo_get (fa_Model_99 rfl rfl) d_Model_identities_18 rfl ?_
    refine ev_if_eq (tgt := 26) d_Model_identities_21 (by decide) (fun c_21 => ?_) (fun c_21 => ?_)
    · exact absurd (show (1 : Int32) = 0 from c_21) (by decide)
    · refine ev_iconst (v := 0) d_Model_identities_24 (by decide) ?_
      refine ev_iret d_Model_identities_25 rfl ?_
      exact ⟨_, rfl, Or.inl ⟨c_6, rfl, rfl⟩⟩
  · obtain ⟨j, hj, rfl⟩ := isF_1 (by omega) c_6
    have hq : F[j]? = some F[j] := List.getElem?_eq_getElem hj
    obtain ⟨na, va, r3, r5, b1, b2, n1, n2⟩ := flds_name hF hq
    have r6 := (hF.2 j _ hq).2.2.2
    refine ev_iconst (v := 0) d_Model_identities_9 (by decide) ?_
    refine ev_goto (tgt := 14) d_Model_identities_10 (by decide) ?_
    refine mo_put (fp_Model_99 rfl rfl) d_Model_identities_14 (Nat.le_of_ble_eq_true rfl) rfl rfl rfl ?_
    refine ev_aload_n d_Model_identities_17 rfl rfl ?_
    refine mo_get (fa_Model_99 rfl rfl) d_Model_identities_18 rfl ?_
    refine ev_if_eq (tgt := 26) d_Model_identities_21 (by decide) (fun c_21 => ?_) (fun c_21 => ?_)
    · refine ev_aload_n d_Model_identities_26 rfl rfl ?_
      refine ev_iconst (v := 4) d_Model_identities_27 (by decide) ?_
      refine ev_iconst (v := 4) d_Model_identities_28 (by decide) ?_
      refine ev_iconst (v := 1) d_Model_identities_29 (by decide) ?_
      refine mo_Vn [.int (nI 4), .int (nI 4), .int (nI 1)] [] ca_Model_identities_255 d_Model_identities_30 rfl (Nat.le_of_ble_eq_true rfl) (c_Model_forget hT hP (f := 4) (l := 4) (a := 1) (by decide) (by decide) (by decide) (by decide +kernel)) (fun h1 z => ?_)
      obtain ⟨R2, rfl, q1, q2⟩ := z
      have hin : vp_in (nI j) (mo_len 5) := vp_in_nI (show j < 40 by omega) (by decide)
      refine ev_aload_n d_Model_identities_33 rfl rfl ?_
      refine mo_get (fa_Model_22 rfl rfl) d_Model_identities_34 rfl ?_
      refine ev_iload_n d_Model_identities_37 rfl rfl ?_
      refine mo_ald hT d_Model_identities_38 (by decide) hin ?_
      rw [nI_clamp (by omega), q2 5 (by decide), r5]
      refine ev_istore_n d_Model_identities_39 rfl (by decide) ?_
      refine ev_iload_n d_Model_identities_40 rfl rfl ?_
      refine ev_aload_n d_Model_identities_41 rfl rfl ?_
      refine mo_get (fa_Model_25 rfl rfl) d_Model_identities_42 rfl ?_
      refine ev_iload_n d_Model_identities_45 rfl rfl ?_
      refine mo_ald hT d_Model_identities_46 (by decide) hin ?_
      rw [nI_clamp (by omega), q2 6 (by decide), r6]
      refine ev_iadd d_Model_identities_47 ?_
      refine ev_istore_n d_Model_identities_48 rfl (by decide) ?_
      rw [nI_add]
      refine ev_as [(0, .ref M), (1, .int (nI j)), (2, .int (nI va)), (3, .int (nI (va + F[j].2.length)))] ⟨rfl, rfl, rfl, rfl, trivial⟩ ?_
      have eP : (fun w => if 4 ≤ w ∧ w ≤ 4 then [] else P w) = va_up P 4 [] := by
        funext w
        by_cases hw : w = 4
        · subst hw; rw [va_up_self]; rfl
        · rw [up_ne hw, if_neg (by omega)]
      rw [eP] at q1
      refine ev_to (l_Model_ids (P := P) (ml := ml) (e := va + F[j].2.length) hT (by omega) F[j].2.length F[j].2 va [] 0 R2 (Nat.le_refl _) (by rw [q2 7 (by decide)]; exact n2) (Or.inl rfl) (by omega) q1 (by simp; omega) (by omega)) ?_
      rintro o h' ⟨v, rfl, hv, R', m', hh', hp', hr'⟩
      exact ⟨v, rfl, Or.inr ⟨j, F[j], rfl, hq, hv, R', m', hh', hp', sm_tr q2 hr'⟩⟩
    · exact absurd rfl c_21
end IDS2
