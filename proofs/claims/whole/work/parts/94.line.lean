/-! the class: a line taken -/
theorem slc_t {T : List Int32} {s n e : Nat} (h : s + n ≤ e) : (T.take (s + n)).drop s = ((T.take e).drop s).take n := by
  apply List.ext_getElem?
  intro i
  rw [List.getElem?_drop, List.getElem?_take, List.getElem?_take, List.getElem?_drop, List.getElem?_take]
  by_cases hi : i < n
  · rw [if_pos (by omega), if_pos hi, if_pos (by omega)]
  · rw [if_neg (by omega), if_neg hi]
theorem slc_d {T : List Int32} {s n e : Nat} : (T.take e).drop (s + n) = ((T.take e).drop s).drop n := by rw [List.drop_drop]
/-- what a line does: fields, whether a value is open, bad lines; whether the lines behind it count -/
def tkL (l : List Int32) (F : Flds) (g : Bool) (bd : Nat) : (Flds × Bool × Nat) × Bool := if isBlH l = true then (if g = true then ((addLast F l, true, bd), true) else ((F, false, bd + 1), true)) else match clp l with
  | none => ((F, false, bd + 1), true)
  | some c => if F.length = 40 then ((F, false, bd), false) else ((F ++ [lfd l c], true, bd), true)
section LINE
variable {G : gl_G} {cI : ClassId} {h : hp_T} {X : Nat} {σ : rwT} {F : Flds} {g : Bool} {bd : Nat}
theorem w_takeLine (hNm : gl_nm G) (hT : (gl_t G)[0]? = some (cI, .int)) (S : tS cI X h σ) (H : hS X h σ F g bd) {s e : Nat} (hse : s ≤ e) (he : e ≤ (σ 2).2.2.length) (he2 : e ≤ 1500) (hbd : bd ≤ 1500) (hK : (fK F).length ≤ 1501) : ct_E G m_Head_takeLine [.ref (X + 4), .ref (X + 2), .int (nI s), .int (nI e)] h (cr (fun v h' => v = .int (bI (tkL (((σ 2).2.2.take e).drop s) F g bd).2) ∧ hP cI X h σ (tkL (((σ 2).2.2.take e).drop s) F g bd).1.1 (tkL (((σ 2).2.2.take e).drop s) F g bd).1.2.1 (tkL (((σ 2).2.2.take e).drop s) F g bd).1.2.2 h')) := by
  have m5 : (5 : Nat) ∈ txs := by decide
  have m2 : (2 : Nat) ∈ rws := by decide
  have hX := S.1.2.2
  obtain ⟨l, hle⟩ : ∃ l, ((σ 2).2.2.take e).drop s = l := ⟨_, rfl⟩
  have hlen : l.length = e - s := by rw [← hle, List.length_drop, List.length_take]; omega
  have hat : ∀ j, j < l.length → rg (σ 2).2.2 (nI (s + j)) = l.getD j (-1) := fun j hj => by
    rw [rg_nat (by omega), ← hle, List.getD_eq_getElem?_getD, List.getD_eq_getElem?_getD, List.getElem?_drop, List.getElem?_take, if_pos (by omega)]
  rw [hle]
  refine ct_of (ws' := tb_all) rfl rfl (Nat.le_of_ble_eq_true rfl) ?_
  -- the line begins with no BLANK
  have a25 : isBlH l = false → ev_E G m_Head_takeLine 25 [(0, .ref (X + 4)), (1, .ref (X + 2)), (2, .int (nI s)), (3, .int (nI e))] [] h (cr (fun v h' => v = .int (bI (tkL l F g bd).2) ∧ hP cI X h σ (tkL l F g bd).1.1 (tkL l F g bd).1.2.1 (tkL l F g bd).1.2.2 h')) := by
    intro hbl
    have hnl := cnt_le isNm l
    have hbl2 := cnt_le isBl (l.drop (cnt isNm l))
    rw [List.length_drop] at hbl2
    refine ev_aload_n d_Head_takeLine_25 rfl rfl ?_
    refine ev_iload_n d_Head_takeLine_26 rfl rfl ?_
    refine ev_iload_n d_Head_takeLine_27 rfl rfl ?_
    refine ev_Sv [.ref (X + 2), .int (nI s), .int (nI e)] [] ca_Head_takeLine_62 d_Head_takeLine_28 rfl (Nat.le_of_ble_eq_true rfl) (w_nameEnd hT S m2 hse he (by omega)) ?_
    rw [hle]
    refine ev_istore d_Head_takeLine_31 (by decide) ?_
    refine ev_aload_n d_Head_takeLine_33 rfl rfl ?_
    refine ev_iload d_Head_takeLine_34 rfl ?_
    refine ev_iload_n d_Head_takeLine_36 rfl rfl ?_
    refine ev_Sv [.ref (X + 2), .int (nI (s + cnt isNm l)), .int (nI e)] [] ca_Head_takeLine_66 d_Head_takeLine_37 rfl (Nat.le_of_ble_eq_true rfl) (w_behindBlanks hNm hT S m2 (show s + cnt isNm l ≤ e by omega) he (by omega)) ?_
    rw [slc_d, hle]
    refine ev_istore d_Head_takeLine_40 (by decide) ?_
    refine ev_aload_n d_Head_takeLine_42 rfl rfl ?_
    refine ev_Vn (ci := 2) [] [] ca_Head_takeLine_51 d_Head_takeLine_43 rfl (H.1) rfl (Nat.le_of_ble_eq_true rfl) (w_closeValue hT S H) (fun h1 z => ?_)
    obtain ⟨σ1, S1, r1, p1, H1⟩ := z
    have e2 : (σ1 2).2.2 = (σ 2).2.2 := p1 2 (by decide)
    obtain ⟨K1, K2, K3, K4, K5⟩ := id H1
    refine ev_as [(0, .ref (X + 4)), (1, .ref (X + 2)), (2, .int (nI s)), (3, .int (nI e)), (4, .int (nI (s + cnt isNm l))), (5, .int (nI (s + cnt isNm l + cnt isBl (l.drop (cnt isNm l)))))] ⟨rfl, rfl, rfl, rfl, rfl, rfl, trivial⟩ ?_
    have bad : clp l = none → ev_E G m_Head_takeLine 69 [(0, .ref (X + 4)), (1, .ref (X + 2)), (2, .int (nI s)), (3, .int (nI e)), (4, .int (nI (s + cnt isNm l))), (5, .int (nI (s + cnt isNm l + cnt isBl (l.drop (cnt isNm l)))))] [] h1 (cr (fun v h' => v = .int (bI (tkL l F g bd).2) ∧ hP cI X h σ (tkL l F g bd).1.1 (tkL l F g bd).1.2.1 (tkL l F g bd).1.2.2 h')) := by
      intro z
      have ek : tkL l F g bd = ((F, false, bd + 1), true) := by
        unfold tkL
        rw [if_neg (by rw [hbl]; decide), z]
      rw [ek]
      refine ev_aload_n d_Head_takeLine_69 rfl rfl ?_
      refine ev_dup d_Head_takeLine_70 rfl ?_
      refine ev_get (fa_Head_18 rfl rfl) d_Head_takeLine_71 K1 rfl ?_
      refine ev_iconst (v := 1) d_Head_takeLine_74 (by decide) ?_
      refine ev_iadd d_Head_takeLine_75 ?_
      rw [nI_1]
      refine ev_put (fp_Head_18 rfl rfl) d_Head_takeLine_76 K1 (Nat.le_of_ble_eq_true rfl) rfl rfl ?_
      refine ev_iconst (v := 1) d_Head_takeLine_79 (by decide) ?_
      refine ev_zret d_Head_takeLine_80 rfl rfl ?_
      exact ⟨_, rfl, rfl, σ1, tS_up S1 K1 (by decide) (by decide), kR_tr r1 (kR_up List.mem_cons_self), p1, hp_up_self _ _ _, K2, K3, K4, K5⟩
    refine ev_iload d_Head_takeLine_46 rfl ?_
    refine ev_iload_n d_Head_takeLine_48 rfl rfl ?_
    refine ev_icmp_eq (tgt := 69) d_Head_takeLine_49 (by decide) (fun c_49 => ?_) (fun c_49 => ?_)
    · have hn0 : cnt isNm l = 0 := by
        have := (nI_eq (by omega) (by omega)).mp c_49
        omega
      exact bad (if_pos hn0)
    · have hn0 : ¬ cnt isNm l = 0 := fun z => c_49 (by rw [z, Nat.add_zero])
      refine ev_iload d_Head_takeLine_52 rfl ?_
      refine ev_iload_n d_Head_takeLine_54 rfl rfl ?_
      refine ev_icmp_ge (tgt := 69) d_Head_takeLine_55 (by decide) (fun c_55 => ?_) (fun c_55 => ?_)
      · have hge := (nI_leI (by omega) (by omega)).mp c_55
        refine bad ?_
        unfold clp
        rw [if_neg hn0, List.getElem?_eq_none (by omega), if_neg (by simp)]
      · have hlt := lt_of_nge (by omega) c_55
        have hpl : cnt isNm l + cnt isBl (l.drop (cnt isNm l)) < l.length := by omega
        refine ev_aload_n d_Head_takeLine_58 rfl rfl ?_
        refine ev_iload d_Head_takeLine_59 rfl ?_
        refine ev_Vv (ci := 1) [.int (nI (s + cnt isNm l + cnt isBl (l.drop (cnt isNm l))))] [] ca_Head_takeLine_43 d_Head_takeLine_61 rfl ((S1.1.1 _ m2).1.1) rfl (Nat.le_of_ble_eq_true rfl) (w_get hT S1.1 m2 _) ?_
        rw [e2, show s + cnt isNm l + cnt isBl (l.drop (cnt isNm l)) = s + (cnt isNm l + cnt isBl (l.drop (cnt isNm l))) by omega, hat _ hpl]
        have hg : l[cnt isNm l + cnt isBl (l.drop (cnt isNm l))]? = some (l.getD (cnt isNm l + cnt isBl (l.drop (cnt isNm l))) (-1)) := by
          rw [List.getD_eq_getElem?_getD, List.getElem?_eq_getElem hpl]
          rfl
        refine ev_bipush (v := 58) d_Head_takeLine_64 (by decide) ?_
        refine ev_icmp_eq (tgt := 81) d_Head_takeLine_66 (by decide) (fun c_66 => ?_) (fun c_66 => ?_)
        rotate_left
        · have hb2 : clp l = none := by
            unfold clp
            rw [if_neg hn0, hg, if_neg (fun z => c_66 (Option.some.inj z))]
          have K := bad hb2
          rw [show s + cnt isNm l + cnt isBl (l.drop (cnt isNm l)) = s + (cnt isNm l + cnt isBl (l.drop (cnt isNm l))) by omega] at K
          exact K
        · have hc : clp l = some (cnt isNm l + cnt isBl (l.drop (cnt isNm l))) := by
            unfold clp
            rw [if_neg hn0, hg, c_66, if_pos rfl]
          have hcl := (clp_lt hc).1
          generalize hcc : cnt isNm l + cnt isBl (l.drop (cnt isNm l)) = c at hc hcl hpl ⊢
          refine ev_aload_n d_Head_takeLine_81 rfl rfl ?_
          refine ev_Vv (ci := 2) [] [] ca_Head_takeLine_30 d_Head_takeLine_82 rfl (K1) rfl (Nat.le_of_ble_eq_true rfl) (ct_of_cp (p_Head_count K1 (tS_tx S1 m5))) ?_
          have ec : (nI (σ1 8).2.2.length - 1) / 2 = nI F.length := by
            rw [K3]
            show (nI (bnF F).length - 1) / 2 = _
            rw [bnF_len, nI_pred]
            rw [show nI (2 * F.length) / 2 = nI (2 * F.length / 2) from pk_div (d := 2) (by omega) (by decide) (by decide), Nat.mul_div_cancel_left _ (by decide)]
          rw [show (nI (σ1 (5 + 3)).2.2.length - 1) / 2 = nI F.length from ec]
          refine ev_bipush (v := 40) d_Head_takeLine_85 (by decide) ?_
          refine ev_icmp_lt (tgt := 92) d_Head_takeLine_87 (by decide) (fun c_87 => ?_) (fun c_87 => ?_)
          · have hF := (nI_ltI (a := F.length) (b := 40) (by omega) (by omega)).mp c_87
            have ek : tkL l F g bd = ((F ++ [lfd l c], true, bd), true) := by
              unfold tkL
              rw [if_neg (by rw [hbl]; decide), hc]
              exact if_neg (by omega)
            rw [ek]
            have k6 : (σ1 6).2.2.length = (fK F).length := by rw [K2]
            refine ev_aload_n d_Head_takeLine_92 rfl rfl ?_
            refine ev_aload_n d_Head_takeLine_93 rfl rfl ?_
            refine ev_iload_n d_Head_takeLine_94 rfl rfl ?_
            refine ev_iload d_Head_takeLine_95 rfl ?_
            refine ev_Vn (ci := 2) [.ref (X + 2), .int (nI s), .int (nI (s + cnt isNm l))] [] ca_Head_takeLine_69 d_Head_takeLine_97 rfl (K1) rfl (Nat.le_of_ble_eq_true rfl) (w_hput hT S1 K1 (show s ≤ s + cnt isNm l by omega) (by rw [e2]; omega) (by omega) (by omega)) (fun h1 z => ?_)
            obtain ⟨σ2, S2, r2, q1, q2⟩ := z
            rw [e2, slc_t (show s + cnt isNm l ≤ e by omega), hle, K2] at q2
            have e22 : (σ2 2).2.2 = (σ 2).2.2 := (q1 2 (by decide)).trans e2
            have hX1 := S1.1.2.2
            have K12 := rwR_obj S1.1 r2 K1 (by omega) (nrow (by decide))
            refine ev_aload_n d_Head_takeLine_100 rfl rfl ?_
            refine ev_get (fa_Head_12 rfl rfl) d_Head_takeLine_101 K12 rfl ?_
            refine ev_Vn (ci := 3) [] [] ca_Head_takeLine_72 d_Head_takeLine_104 rfl ((S2.2 5 m5)) rfl (Nat.le_of_ble_eq_true rfl) (w_close hT S2 m5) (fun h1 z => ?_)
            obtain ⟨σ3, S3, r3, q3, q4⟩ := z
            have hX2 := S2.1.2.2
            have K13 := rwR_obj S2.1 r3 K12 (by omega) (nrow (by decide))
            have l6 : (σ2 6).2.2.length = (fK F).length + cnt isNm l := by rw [q2, List.length_append, List.length_take]; omega
            have hbl3 := hB_len (F := F) (g := false) K5
            have q4' : (σ3 8).2.2 = bnF F ++ [nI ((fK F).length + cnt isNm l)] := by
              have : (σ3 8).2.2 = addR (σ2 8).2.2 (nI (σ2 6).2.2.length) := q4
              rw [this, q1 8 (by decide), K3, l6]
              unfold addR
              rw [if_pos (by omega)]
              rfl
            have e23 : (σ3 2).2.2 = (σ 2).2.2 := (q3 2 (by decide)).trans e22
            have l63 : (σ3 6).2.2 = (σ2 6).2.2 := q3 6 (by decide)
            refine ev_aload_n d_Head_takeLine_107 rfl rfl ?_
            refine ev_aload_n d_Head_takeLine_108 rfl rfl ?_
            refine ev_iload d_Head_takeLine_109 rfl ?_
            refine ev_iconst (v := 1) d_Head_takeLine_111 (by decide) ?_
            refine ev_iadd d_Head_takeLine_112 ?_
            rw [nI_1]
            refine ev_iload_n d_Head_takeLine_113 rfl rfl ?_
            refine ev_Vn (ci := 2) [.ref (X + 2), .int (nI (s + c + 1)), .int (nI e)] [] ca_Head_takeLine_69 d_Head_takeLine_114 rfl (K13) rfl (Nat.le_of_ble_eq_true rfl) (w_hput hT S3 K13 (show s + c + 1 ≤ e by omega) (by rw [e23]; exact he) (by omega) (by rw [l63, l6]; omega)) (fun h1 z => ?_)
            obtain ⟨σ4, S4, r4, q5, q6⟩ := z
            rw [e23, show s + c + 1 = s + (c + 1) by omega, slc_d, hle, l63, q2] at q6
            have hX3 := S3.1.2.2
            have K14 := rwR_obj S3.1 r4 K13 (by omega) (nrow (by decide))
            refine ev_aload_n d_Head_takeLine_117 rfl rfl ?_
            refine ev_iconst (v := 1) d_Head_takeLine_118 (by decide) ?_
            refine ev_put (fp_Head_22 rfl rfl) d_Head_takeLine_119 K14 (Nat.le_of_ble_eq_true rfl) rfl rfl ?_
            refine ev_iconst (v := 1) d_Head_takeLine_122 (by decide) ?_
            refine ev_zret d_Head_takeLine_123 rfl rfl ?_
            refine ⟨_, rfl, rfl, σ4, tS_up S4 K14 (by decide) (by decide), kR_tr (kR_tr r1 (kR_of (rwR_tr r2 (rwR_tr r3 r4)))) (kR_up List.mem_cons_self), fun τ hτ => ?_, hp_up_self _ _ _, ?_, ?_, fun _ => by simp, by simp; omega⟩
            · rw [q5 τ (fun z => hτ (by simp at z; simp [z])), q3 τ (fun z => hτ (by simp at z; simp [z])), q1 τ (fun z => hτ (by simp at z; simp [z])), p1 τ hτ]
            · rw [q6, fK_snoc]
              simp [lfd]
            · rw [q5 8 (by decide), q4', hB_open]
              congr 3
              show _ = (fK F).length + (l.take (cnt isNm l)).length
              rw [List.length_take]
              omega
          · have hF : F.length = 40 := by
              rcases Nat.lt_or_ge F.length 40 with q | q
              · exact absurd (nI_lt q (by omega)) c_87
              · omega
            have ek : tkL l F g bd = ((F, false, bd), false) := by
              unfold tkL
              rw [if_neg (by rw [hbl]; decide), hc]
              exact if_pos hF
            rw [ek]
            refine ev_iconst (v := 0) d_Head_takeLine_90 (by decide) ?_
            refine ev_zret d_Head_takeLine_91 rfl rfl ?_
            exact ⟨_, rfl, rfl, σ1, S1, r1, p1, H1⟩
  refine ev_iload_n d_Head_takeLine_0 rfl rfl ?_
  refine ev_iload_n d_Head_takeLine_1 rfl rfl ?_
  refine ev_icmp_ge (tgt := 25) d_Head_takeLine_2 (by decide) (fun c_2 => ?_) (fun c_2 => ?_)
  · have := (nI_leI (by omega) (by omega)).mp c_2
    have hnil : l = [] := List.length_eq_zero_iff.mp (by omega)
    exact a25 (by rw [hnil]; rfl)
  · have hlt := lt_of_nge (by omega) c_2
    have h0 := hat 0 (by omega)
    rw [Nat.add_zero] at h0
    refine ev_aload_n d_Head_takeLine_5 rfl rfl ?_
    refine ev_iload_n d_Head_takeLine_6 rfl rfl ?_
    refine ev_Vv (ci := 1) [.int (nI s)] [] ca_Head_takeLine_43 d_Head_takeLine_7 rfl ((S.1.1 _ m2).1.1) rfl (Nat.le_of_ble_eq_true rfl) (w_get hT S.1 m2 (nI s)) ?_
    rw [h0]
    refine ev_Nv hNm [.int (l.getD 0 (-1))] [] cn_Head_takeLine_54 d_Head_takeLine_10 rfl (Nat.le_of_ble_eq_true rfl) (w_isBlank _) ?_
    obtain ⟨c, t, rfl⟩ : ∃ c t, l = c :: t := by
      cases l with
      | nil => simp at hlen; omega
      | cons c t => exact ⟨c, t, rfl⟩
    rw [show (c :: t).getD 0 (-1) = c from rfl]
    by_cases hb : c = 32 ∨ c = 9
    · rw [show sp_blank c = 1 from if_pos hb]
      refine ev_if_eq (tgt := 25) d_Head_takeLine_13 (by decide) (fun z => absurd z (by decide)) (fun _ => ?_)
      have hbl : isBlH (c :: t) = true := decide_eq_true hb
      refine ev_aload_n d_Head_takeLine_16 rfl rfl ?_
      refine ev_aload_n d_Head_takeLine_17 rfl rfl ?_
      refine ev_iload_n d_Head_takeLine_18 rfl rfl ?_
      refine ev_iload_n d_Head_takeLine_19 rfl rfl ?_
      refine ev_Vn (ci := 2) [.ref (X + 2), .int (nI s), .int (nI e)] [] ca_Head_takeLine_58 d_Head_takeLine_20 rfl (H.1) rfl (Nat.le_of_ble_eq_true rfl) (w_takeFolded hT S H hse he he2 hbd hK) (fun h1 z => ?_)
      refine ev_iconst (v := 1) d_Head_takeLine_23 (by decide) ?_
      refine ev_zret d_Head_takeLine_24 rfl rfl ?_
      refine ⟨_, rfl, ?_⟩
      cases g with
      | true =>
        have ek : tkL (c :: t) F true bd = ((addLast F (c :: t), true, bd), true) := by
          unfold tkL
          rw [if_pos hbl, if_pos rfl]
        rw [ek]
        have z' : hP cI X h σ (addLast F (((σ 2).2.2.take e).drop s)) true bd h1 := z
        rw [hle] at z'
        exact ⟨rfl, z'⟩
      | false =>
        have ek : tkL (c :: t) F false bd = ((F, false, bd + 1), true) := by
          unfold tkL
          rw [if_pos hbl, if_neg (by decide)]
        rw [ek]
        exact ⟨rfl, z⟩
    · rw [show sp_blank c = 0 from if_neg hb]
      refine ev_if_eq (tgt := 25) d_Head_takeLine_13 (by decide) (fun _ => ?_) (fun z => absurd rfl z)
      exact a25 (decide_eq_false hb)
end LINE
