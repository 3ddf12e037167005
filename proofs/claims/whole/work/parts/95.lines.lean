/-! the class: the lines read -/
theorem rdS_tk {n : Nat} {l : List Int32} {F : Flds} {b : Nat} {g : Bool} (h : l ≠ []) : rdS (n + 1) l F b g = if (tkL (l.take (eL l)) F g b).2 = true then rdS n (l.drop (cnt nNL l + 1)) (tkL (l.take (eL l)) F g b).1.1 (tkL (l.take (eL l)) F g b).1.2.2 (tkL (l.take (eL l)) F g b).1.2.1 else ((tkL (l.take (eL l)) F g b).1.1, (tkL (l.take (eL l)) F g b).1.2.2) := by
  rw [rdS, if_neg h]
  unfold tkL
  by_cases h1 : isBlH (l.take (eL l)) = true
  · rw [if_pos h1, if_pos h1]
    cases g with
    | true => rfl
    | false => rfl
  · rw [if_neg h1, if_neg h1]
    cases hc : clp (l.take (eL l)) with
    | none => rfl
    | some c =>
      by_cases h4 : F.length = 40
      · simp only [if_pos h4]
        rfl
      · simp only [if_neg h4]
        rfl
theorem tk_bd {l : List Int32} {F : Flds} {g : Bool} {b : Nat} (hg : g = true → F ≠ []) : (fK (tkL l F g b).1.1).length ≤ (fK F).length + l.length ∧ (tkL l F g b).1.2.2 ≤ b + 1 ∧ ((tkL l F g b).1.2.1 = true → (tkL l F g b).1.1 ≠ []) := by
  unfold tkL
  by_cases h1 : isBlH l = true
  · rw [if_pos h1]
    cases g with
    | true =>
      rw [if_pos rfl]
      obtain ⟨F', q, rfl⟩ : ∃ F' q, F = F' ++ [q] := ⟨F.dropLast, F.getLast (hg rfl), (List.dropLast_concat_getLast (hg rfl)).symm⟩
      rw [addLast_snoc]
      refine ⟨?_, by simp, fun _ => by simp⟩
      rw [fK_snoc, fK_snoc]
      simp only [List.length_append]
      omega
    | false =>
      rw [if_neg (by decide)]
      exact ⟨Nat.le_add_right _ _, Nat.le_refl _, fun z => by cases z⟩
  · rw [if_neg h1]
    cases hc : clp l with
    | none => exact ⟨Nat.le_add_right _ _, Nat.le_refl _, fun z => by cases z⟩
    | some c =>
      by_cases h4 : F.length = 40
      · simp only [if_pos h4]
        exact ⟨Nat.le_add_right _ _, Nat.le_succ _, fun z => by cases z⟩
      · simp only [if_neg h4]
        refine ⟨?_, Nat.le_succ _, fun _ => by simp⟩
        have hcl := clp_lt hc
        rw [fK_snoc]
        simp only [lfd, List.length_append, List.length_take, List.length_drop]
        omega
section LINES
variable {G : gl_G} {cI : ClassId} {X : Nat}
theorem l_readLines (hNm : gl_nm G) (hT : (gl_t G)[0]? = some (cI, .int)) {T : List Int32} (hT2 : T.length ≤ 1500) : ∀ (n : Nat) (l : List Int32) (st : Nat) (F : Flds) (g : Bool) (bd : Nat) (h : hp_T) (σ : rwT), T.drop st = l → st + l.length = T.length → l.length ≤ n → tS cI X h σ → (σ 2).2.2 = T → hS X h σ F g bd → (fK F).length ≤ st → bd ≤ st →
    ev_E G m_Head_readLines 22 [(0, .ref (X + 4)), (1, .ref (X + 2)), (2, .int (nI T.length)), (3, .int (nI st)), (4, .int (nI st))] [] h (cn (hP cI X h σ (rdS n l F bd g).1 false (rdS n l F bd g).2)) := by
  have m2 : (2 : Nat) ∈ rws := by decide
  -- the end
  have fin : ∀ (F : Flds) (g : Bool) (bd : Nat) (h : hp_T) (σ : rwT) (lv : List (Nat × Value)), lq_all lv [(0, .ref (X + 4))] → tS cI X h σ → hS X h σ F g bd → ev_E G m_Head_readLines 127 lv [] h (cn (hP cI X h σ F false bd)) := by
    intro F g bd h σ lv hlv S H
    refine ev_as _ hlv ?_
    refine ev_aload_n d_Head_readLines_127 rfl rfl ?_
    refine ev_Vn (ci := 2) [] [] ca_Head_readLines_51 d_Head_readLines_128 rfl (H.1) rfl (Nat.le_of_ble_eq_true rfl) (w_closeValue hT S H) (fun h1 z => ?_)
    refine ev_vret d_Head_readLines_131 rfl ?_
    exact ⟨rfl, z⟩
  intro n
  induction n with
  | zero =>
    intro l st F g bd h σ hd hl hn S hσ H hK hbd
    have : l = [] := List.length_eq_zero_iff.mp (by omega)
    subst this
    simp only [List.length_nil] at hl
    refine ev_iload d_Head_readLines_22 rfl ?_
    refine ev_iload_n d_Head_readLines_24 rfl rfl ?_
    refine ev_icmp_ge (tgt := 127) d_Head_readLines_25 (by decide) (fun _ => ?_) (fun z => absurd (nI_le (by omega) (by omega)) z)
    exact fin F g bd h σ _ ⟨rfl, trivial⟩ S H
  | succ n ih =>
    intro l st F g bd h σ hd hl hn S hσ H hK hbd
    by_cases hnil : l = []
    · subst hnil
      simp only [List.length_nil] at hl
      rw [show rdS (n + 1) [] F bd g = (F, bd) by rw [rdS, if_pos rfl]]
      refine ev_iload d_Head_readLines_22 rfl ?_
      refine ev_iload_n d_Head_readLines_24 rfl rfl ?_
      refine ev_icmp_ge (tgt := 127) d_Head_readLines_25 (by decide) (fun _ => ?_) (fun z => absurd (nI_le (by omega) (by omega)) z)
      exact fin F g bd h σ _ ⟨rfl, trivial⟩ S H
    · have hcl := cnt_le nNL l
      have hel := eL_le l
      have hlen : 0 < l.length := List.length_pos_iff.mpr hnil
      have hg : ∀ j, j < l.length → rg (σ 2).2.2 (nI (st + j)) = l.getD j (-1) := fun j hj => by
        rw [rg_nat (by omega), hσ, ← hd, List.getD_eq_getElem?_getD, List.getD_eq_getElem?_getD, List.getElem?_drop]
      have hsl : (T.take (st + eL l)).drop st = l.take (eL l) := by
        rw [← hd]
        apply List.ext_getElem?
        intro i
        rw [List.getElem?_drop, List.getElem?_take, List.getElem?_take, List.getElem?_drop]
        by_cases hi : i < eL (T.drop st)
        · rw [if_pos (by omega), if_pos hi]
        · rw [if_neg (by omega), if_neg hi]
      have hb := tk_bd (l := l.take (eL l)) (b := bd) H.2.2.2.1
      rw [List.length_take] at hb
      -- at 102: the line is taken; i is its last place
      have a102 : ∀ (i : Nat) (x5 : Int32), i + 1 ≤ T.length → st ≤ i → st + eL l ≤ i + 1 → T.drop (i + 1) = l.drop (cnt nNL l + 1) → ev_E G m_Head_readLines 102 [(0, .ref (X + 4)), (1, .ref (X + 2)), (2, .int (nI T.length)), (3, .int (nI st)), (4, .int (nI i)), (5, .int x5), (6, .int (nI (st + eL l)))] [] h (cn (hP cI X h σ (rdS (n + 1) l F bd g).1 false (rdS (n + 1) l F bd g).2)) := by
        intro i x5 hi hsi hei hdi
        rw [rdS_tk hnil]
        refine ev_aload_n d_Head_readLines_102 rfl rfl ?_
        refine ev_aload_n d_Head_readLines_103 rfl rfl ?_
        refine ev_iload_n d_Head_readLines_104 rfl rfl ?_
        refine ev_iload d_Head_readLines_105 rfl ?_
        refine ev_Vr (ci := 2) [.ref (X + 2), .int (nI st), .int (nI (st + eL l))] [] ca_Head_readLines_47 d_Head_readLines_107 rfl (H.1) rfl (Nat.le_of_ble_eq_true rfl) (w_takeLine hNm hT S H (show st ≤ st + eL l by omega) (by rw [hσ]; omega) (by omega) (by omega) (by omega)) (fun v h1 z => ?_)
        rw [hσ, hsl] at z
        obtain ⟨rfl, z⟩ := z
        generalize tkL (l.take (eL l)) F g bd = tk at z hb ⊢
        obtain ⟨⟨F', g', bd'⟩, ct⟩ := tk
        obtain ⟨σ1, S1, r1, p1, H1⟩ := z
        have e2 : (σ1 2).2.2 = T := (p1 2 (by decide)).trans hσ
        cases ct with
        | true =>
          refine ev_if_ne (tgt := 116) d_Head_readLines_110 (by decide) (fun _ => ?_) (fun z => absurd (show (1 : Int32) = 0 from z) (by decide))
          refine ev_iload d_Head_readLines_116 rfl ?_
          refine ev_iconst (v := 1) d_Head_readLines_118 (by decide) ?_
          refine ev_iadd d_Head_readLines_119 ?_
          rw [nI_1]
          refine ev_istore_n d_Head_readLines_120 rfl (by decide) ?_
          refine ev_iinc d_Head_readLines_121 rfl (by decide) ?_
          refine ev_goto (tgt := 22) d_Head_readLines_124 (by decide) ?_
          refine ev_as [(0, .ref (X + 4)), (1, .ref (X + 2)), (2, .int (nI T.length)), (3, .int (nI (i + 1))), (4, .int (nI (i + 1)))] ⟨rfl, rfl, rfl, rfl, ?_, trivial⟩ ?_
          · show some (Value.int (nI i + Int32.ofInt 1)) = _
            rw [show nI i + Int32.ofInt 1 = nI (i + 1) from nI_1 i]
          · have hl2 : i + 1 + (l.drop (cnt nNL l + 1)).length = T.length := by rw [← hdi, List.length_drop]; omega
            refine ev_to (ih (l.drop (cnt nNL l + 1)) (i + 1) F' g' bd' h1 σ1 hdi hl2 (by rw [List.length_drop]; omega) S1 e2 H1 (by have := hb.1; dsimp only at this; omega) (by have := hb.2.1; dsimp only at this; omega)) ?_
            rintro o h' ⟨rfl, p⟩
            exact ⟨rfl, hP_tr r1 p1 p⟩
        | false =>
          refine ev_if_ne (tgt := 116) d_Head_readLines_110 (by decide) (fun z => absurd rfl z) (fun _ => ?_)
          refine ev_goto (tgt := 127) d_Head_readLines_113 (by decide) ?_
          refine ev_to (fin F' g' bd' h1 σ1 _ ⟨rfl, trivial⟩ S1 H1) ?_
          rintro o h' ⟨rfl, p⟩
          exact ⟨rfl, hP_tr r1 p1 p⟩
      -- at 62
      have a1 : cnt nNL l < l.length → ev_E G m_Head_readLines 62 [(0, .ref (X + 4)), (1, .ref (X + 2)), (2, .int (nI T.length)), (3, .int (nI st)), (4, .int (nI (st + cnt nNL l))), (5, .int 1)] [] h (cn (hP cI X h σ (rdS (n + 1) l F bd g).1 false (rdS (n + 1) l F bd g).2)) := by
        intro hlt
        have K := a102 (st + cnt nNL l) 1 (by omega) (by omega) (by omega) (by rw [← hd, List.drop_drop]; congr 1)
        refine ev_iload d_Head_readLines_62 rfl ?_
        refine ev_if_eq (tgt := 72) d_Head_readLines_64 (by decide) (fun z => absurd z (by decide)) (fun _ => ?_)
        refine ev_iload d_Head_readLines_67 rfl ?_
        refine ev_goto (tgt := 73) d_Head_readLines_69 (by decide) ?_
        refine ev_istore d_Head_readLines_73 (by decide) ?_
        refine ev_iload d_Head_readLines_75 rfl ?_
        refine ev_if_eq (tgt := 102) d_Head_readLines_77 (by decide) (fun z => absurd z (by decide)) (fun _ => ?_)
        have noCR : eL l = cnt nNL l → ev_E G m_Head_readLines 102 [(0, .ref (X + 4)), (1, .ref (X + 2)), (2, .int (nI T.length)), (3, .int (nI st)), (4, .int (nI (st + cnt nNL l))), (5, .int 1), (6, .int (nI (st + cnt nNL l)))] [] h (cn (hP cI X h σ (rdS (n + 1) l F bd g).1 false (rdS (n + 1) l F bd g).2)) := by
          intro e
          rw [e] at K
          exact K
        refine ev_iload d_Head_readLines_80 rfl ?_
        refine ev_iload_n d_Head_readLines_82 rfl rfl ?_
        refine ev_icmp_le (tgt := 102) d_Head_readLines_83 (by decide) (fun c_83 => ?_) (fun c_83 => ?_)
        · have := (nI_leI (by omega) (by omega)).mp c_83
          refine noCR (if_neg fun z => ?_)
          omega
        · have hpos : 0 < cnt nNL l := by
            rcases Nat.eq_zero_or_pos (cnt nNL l) with q | q
            · exact absurd (nI_le (by omega) (by omega)) c_83
            · exact q
          have h13 := hg (cnt nNL l - 1) (by omega)
          have hq : l[cnt nNL l - 1]? = some (l.getD (cnt nNL l - 1) (-1)) := by
            rw [List.getD_eq_getElem?_getD, List.getElem?_eq_getElem (by omega)]
            rfl
          refine ev_aload_n d_Head_readLines_86 rfl rfl ?_
          refine ev_iload d_Head_readLines_87 rfl ?_
          refine ev_iconst (v := 1) d_Head_readLines_89 (by decide) ?_
          refine ev_isub d_Head_readLines_90 ?_
          rw [show nI (st + cnt nNL l) - 1 = nI (st + cnt nNL l - 1) from pk_sub (b := 1) (by omega), show st + cnt nNL l - 1 = st + (cnt nNL l - 1) by omega]
          refine ev_Vv (ci := 1) [.int (nI (st + (cnt nNL l - 1)))] [] ca_Head_readLines_43 d_Head_readLines_91 rfl ((S.1.1 _ m2).1.1) rfl (Nat.le_of_ble_eq_true rfl) (w_get hT S.1 m2 _) ?_
          rw [h13]
          refine ev_bipush (v := 13) d_Head_readLines_94 (by decide) ?_
          refine ev_icmp_ne (tgt := 102) d_Head_readLines_96 (by decide) (fun c_96 => ?_) (fun c_96 => ?_)
          · refine noCR (if_neg fun z => c_96 ?_)
            have := z.2.2
            rw [hq] at this
            exact Option.some.inj this
          · have c13 : l.getD (cnt nNL l - 1) (-1) = 13 := by
              by_cases q : l.getD (cnt nNL l - 1) (-1) = 13
              · exact q
              · first | exact absurd q c_96 | exact c_96
            have e : eL l = cnt nNL l - 1 := if_pos ⟨hlt, hpos, by rw [hq, c13]⟩
            rw [e] at K
            refine ev_iinc d_Head_readLines_99 rfl (by decide) ?_
            refine ev_as [(0, .ref (X + 4)), (1, .ref (X + 2)), (2, .int (nI T.length)), (3, .int (nI st)), (4, .int (nI (st + cnt nNL l))), (5, .int 1), (6, .int (nI (st + (cnt nNL l - 1))))] ⟨rfl, rfl, rfl, rfl, rfl, rfl, ?_, trivial⟩ K
            show some (Value.int (nI (st + cnt nNL l) + Int32.ofInt (-1))) = _
            rw [show nI (st + cnt nNL l) + Int32.ofInt (-1) = nI (st + cnt nNL l) - nI 1 from by rw [Int32.sub_eq_add_neg]; rfl, pk_sub (by omega), show st + cnt nNL l - 1 = st + (cnt nNL l - 1) by omega]
      have a0 : cnt nNL l = l.length → ev_E G m_Head_readLines 62 [(0, .ref (X + 4)), (1, .ref (X + 2)), (2, .int (nI T.length)), (3, .int (nI st)), (4, .int (nI (st + l.length - 1))), (5, .int 0)] [] h (cn (hP cI X h σ (rdS (n + 1) l F bd g).1 false (rdS (n + 1) l F bd g).2)) := by
        intro hce
        have e : eL l = l.length := (if_neg (fun z => by omega)).trans hce
        have K := a102 (st + l.length - 1) 0 (by omega) (by omega) (by omega) (by rw [List.drop_eq_nil_of_le (by omega), List.drop_eq_nil_of_le (by omega)])
        rw [hl] at K ⊢
        rw [e, hl] at K
        refine ev_iload d_Head_readLines_62 rfl ?_
        refine ev_if_eq (tgt := 72) d_Head_readLines_64 (by decide) (fun _ => ?_) (fun z => absurd rfl z)
        refine ev_iload_n d_Head_readLines_72 rfl rfl ?_
        refine ev_istore d_Head_readLines_73 (by decide) ?_
        refine ev_iload d_Head_readLines_75 rfl ?_
        refine ev_if_eq (tgt := 102) d_Head_readLines_77 (by decide) (fun _ => ?_) (fun z => absurd rfl z)
        exact K
      have scan : ∀ (t : List Int32) (j : Nat) (lv : List (Nat × Value)), l.drop j = t → j + t.length = l.length → cnt nNL l = j + cnt nNL t → t ≠ [] → lq_all lv [(0, .ref (X + 4)), (1, .ref (X + 2)), (2, .int (nI T.length)), (3, .int (nI st)), (4, .int (nI (st + j)))] → ev_E G m_Head_readLines 22 lv [] h (cn (hP cI X h σ (rdS (n + 1) l F bd g).1 false (rdS (n + 1) l F bd g).2)) := by
        intro t
        induction t with
        | nil => intro j lv _ _ _ z; exact absurd rfl z
        | cons c t iht =>
          intro j lv hdj hlj hcj _ hlv
          simp only [List.length_cons] at hlj
          refine ev_as _ hlv ?_
          have hc : l.getD j (-1) = c := by
            have h1 := congrArg (fun l => l[0]?) hdj
            simp only [List.getElem?_drop, Nat.add_zero, List.getElem?_cons_zero] at h1
            rw [List.getD_eq_getElem?_getD, h1]
            rfl
          have hd2 : l.drop (j + 1) = t := by
            have := congrArg (fun l => l.drop 1) hdj
            simpa [List.drop_drop, Nat.add_comm] using this
          have hgj := hg j (by omega)
          rw [hc] at hgj
          refine ev_iload d_Head_readLines_22 rfl ?_
          refine ev_iload_n d_Head_readLines_24 rfl rfl ?_
          refine ev_icmp_ge (tgt := 127) d_Head_readLines_25 (by decide) (fun z => absurd z (nI_ge (by omega) (by omega))) (fun _ => ?_)
          refine ev_aload_n d_Head_readLines_28 rfl rfl ?_
          refine ev_iload d_Head_readLines_29 rfl ?_
          refine ev_Vv (ci := 1) [.int (nI (st + j))] [] ca_Head_readLines_43 d_Head_readLines_31 rfl ((S.1.1 _ m2).1.1) rfl (Nat.le_of_ble_eq_true rfl) (w_get hT S.1 m2 _) ?_
          rw [hgj]
          refine ev_bipush (v := 10) d_Head_readLines_34 (by decide) ?_
          refine ev_icmp_ne (tgt := 43) d_Head_readLines_36 (by decide) (fun c_36 => ?_) (fun c_36 => ?_)
          · rw [cnt_yes (show nNL c = true from decide_eq_true c_36)] at hcj
            refine ev_iconst (v := 0) d_Head_readLines_43 (by decide) ?_
            refine ev_istore d_Head_readLines_44 (by decide) ?_
            refine ev_iload d_Head_readLines_46 rfl ?_
            refine ev_if_ne (tgt := 62) d_Head_readLines_48 (by decide) (fun z => absurd rfl z) (fun _ => ?_)
            refine ev_iload d_Head_readLines_51 rfl ?_
            refine ev_iconst (v := 1) d_Head_readLines_53 (by decide) ?_
            refine ev_iadd d_Head_readLines_54 ?_
            rw [nI_1]
            refine ev_iload_n d_Head_readLines_55 rfl rfl ?_
            refine ev_icmp_ge (tgt := 62) d_Head_readLines_56 (by decide) (fun c_56 => ?_) (fun c_56 => ?_)
            · have := (nI_leI (by omega) (by omega)).mp c_56
              have ht : t = [] := List.length_eq_zero_iff.mp (by omega)
              subst ht
              have K := a0 (by simp [cnt] at hcj; simp at hlj; omega)
              rw [show st + l.length - 1 = st + j by simp at hlj; omega] at K
              exact K
            · have hlt := lt_of_nge (by omega) c_56
              refine ev_goto (tgt := 121) d_Head_readLines_59 (by decide) ?_
              refine ev_iinc d_Head_readLines_121 rfl (by decide) ?_
              refine ev_goto (tgt := 22) d_Head_readLines_124 (by decide) ?_
              refine iht (j + 1) _ hd2 (by omega) (by omega) (fun z => by subst z; simp at hlj; omega) ⟨rfl, rfl, rfl, rfl, ?_, trivial⟩
              show some (Value.int (nI (st + j) + Int32.ofInt 1)) = _
              rw [show nI (st + j) + Int32.ofInt 1 = nI (st + j + 1) from nI_1 _]
              rfl
          · have c10 : c = 10 := by
              by_cases q : c = 10
              · exact q
              · first | exact absurd q c_36 | exact c_36
            rw [cnt_no (show nNL c = false from decide_eq_false (fun z => z c10))] at hcj
            refine ev_iconst (v := 1) d_Head_readLines_39 (by decide) ?_
            refine ev_goto (tgt := 44) d_Head_readLines_40 (by decide) ?_
            refine ev_istore d_Head_readLines_44 (by decide) ?_
            refine ev_iload d_Head_readLines_46 rfl ?_
            refine ev_if_ne (tgt := 62) d_Head_readLines_48 (by decide) (fun _ => ?_) (fun z => absurd z (by decide))
            have K := a1 (by omega)
            rw [show cnt nNL l = j by omega] at K
            exact K
      exact scan l 0 _ rfl (Nat.zero_add _) (Nat.zero_add _).symm hnil ⟨rfl, rfl, rfl, rfl, rfl, trivial⟩
theorem w_readLines (hNm : gl_nm G) (hT : (gl_t G)[0]? = some (cI, .int)) {h : hp_T} {σ : rwT} {F : Flds} {bd : Nat} (S : tS cI X h σ) (H : hS X h σ F false bd) (hT2 : (σ 2).2.2.length ≤ 1500) : ct_E G m_Head_readLines [.ref (X + 4), .ref (X + 2)] h (cn (hP cI X h σ (rdS (σ 2).2.2.length (σ 2).2.2 [] 0 false).1 false (rdS (σ 2).2.2.length (σ 2).2.2 [] 0 false).2)) := by
  have m5 : (5 : Nat) ∈ txs := by decide
  have m2 : (2 : Nat) ∈ rws := by decide
  have hX := S.1.2.2
  obtain ⟨H1, H2, H3, H4, H5⟩ := id H
  refine ct_of (ws' := tb_all) rfl rfl (Nat.le_of_ble_eq_true rfl) ?_
  refine ev_aload_n d_Head_readLines_0 rfl rfl ?_
  refine ev_get (fa_Head_12 rfl rfl) d_Head_readLines_1 H1 rfl ?_
  refine ev_Vn (ci := 3) [] [] ca_Head_readLines_35 d_Head_readLines_4 rfl ((S.2 5 m5)) rfl (Nat.le_of_ble_eq_true rfl) (w_clear S m5) (fun h1 z => ?_)
  obtain ⟨σ1, S1, r1, p1, p2, p3⟩ := z
  have K1 := rwR_obj S.1 r1 H1 (by omega) (nrow (by decide))
  have e2 : (σ1 2).2.2 = (σ 2).2.2 := p1 2 (by decide)
  refine ev_aload_n d_Head_readLines_7 rfl rfl ?_
  refine ev_iconst (v := 0) d_Head_readLines_8 (by decide) ?_
  refine ev_put (fp_Head_18 rfl rfl) d_Head_readLines_9 K1 (Nat.le_of_ble_eq_true rfl) rfl rfl ?_
  have S2 := tS_up (e2 := (2, [Value.ref (X + 5), .int (nI bd), .int (bI false)].set 1 (.int 0))) S1 K1 (by decide) (by decide)
  have H2' : hS X (hp_up h1 (X + 4) (.inr (2, [Value.ref (X + 5), .int (nI bd), .int (bI false)].set 1 (.int 0)))) σ1 [] false 0 := by
    refine ⟨hp_up_self _ _ _, p2, ?_, (fun z => by cases z), by decide⟩
    have : (σ1 8).2.2 = (σ 8).2.2.take 1 := p3
    rw [this, H3]
    rfl
  refine ev_aload_n d_Head_readLines_12 rfl rfl ?_
  refine ev_Vv (ci := 1) [] [] ca_Head_readLines_38 d_Head_readLines_13 rfl ((S2.1.1 _ m2).1.1) rfl (Nat.le_of_ble_eq_true rfl) (w_size S2.1 m2) ?_
  rw [e2]
  refine ev_istore_n d_Head_readLines_16 rfl (by decide) ?_
  refine ev_iconst (v := 0) d_Head_readLines_17 (by decide) ?_
  refine ev_istore_n d_Head_readLines_18 rfl (by decide) ?_
  refine ev_iconst (v := 0) d_Head_readLines_19 (by decide) ?_
  refine ev_istore d_Head_readLines_20 (by decide) ?_
  refine ev_as [(0, .ref (X + 4)), (1, .ref (X + 2)), (2, .int (nI (σ 2).2.2.length)), (3, .int (nI 0)), (4, .int (nI 0))] ⟨rfl, rfl, rfl, rfl, rfl, trivial⟩ ?_
  refine ev_to (l_readLines hNm hT hT2 (σ 2).2.2.length (σ 2).2.2 0 [] false 0 _ σ1 rfl (Nat.zero_add _) (Nat.le_refl _) S2 e2 H2' (Nat.le_refl _) (Nat.le_refl _)) ?_
  rintro o h' ⟨rfl, p⟩
  exact ⟨rfl, hP_tr (kR_tr (kR_of r1) (kR_up List.mem_cons_self)) (fun τ hτ => p1 τ hτ) p⟩
end LINES
