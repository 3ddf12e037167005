/-! the class: find, field, fieldByte as the reference answers -/
theorem hdT_F (F : Flds) (f w : Int32) (hF : F.length ≤ 40) : (fdt F f w = none ∧ hdT (nI F.length) f w = -1) ∨ ∃ (j : Nat) (q : List Int32 × List Int32), F[j]? = some q ∧ ((fdt F f w = some q.1 ∧ hdT (nI F.length) f w = nI (2 * j)) ∨ (fdt F f w = some q.2 ∧ hdT (nI F.length) f w = nI (2 * j + 1))) := by
  unfold fdt hdT
  by_cases h0 : f < 0
  · rw [if_pos h0, if_pos h0]; exact Or.inl ⟨rfl, rfl⟩
  · rw [if_neg h0, if_neg h0]
    obtain ⟨j, hj, rfl⟩ := nI_of h0
    rw [nI_clamp hj]
    by_cases hle : nI F.length ≤ nI j
    · have := (nI_leI (by omega) hj).mp hle
      rw [if_pos hle, List.getElem?_eq_none this]
      exact Or.inl ⟨rfl, rfl⟩
    · have hlt := lt_of_nge hj hle
      have hq : F[j]? = some F[j] := List.getElem?_eq_getElem hlt
      rw [if_neg hle, hq]
      generalize F[j] = q at hq
      by_cases w0 : w = 0
      · subst w0
        refine Or.inr ⟨j, q, hq, Or.inl ⟨rfl, ?_⟩⟩
        rw [if_pos (Or.inl rfl), Int32.add_zero]
        exact pk_mul 2 j
      · by_cases w1 : w = 1
        · subst w1
          refine Or.inr ⟨j, q, hq, Or.inr ⟨?_, ?_⟩⟩
          · show (if (1 : Int32) = 0 then _ else if (1 : Int32) = 1 then _ else _) = _
            rw [if_neg (by decide), if_pos rfl]
          · rw [if_pos (Or.inr rfl)]
            exact (congrArg (· + 1) (pk_mul 2 j)).trans (nI_1 _)
        · refine Or.inl ⟨?_, if_neg (fun z => z.elim w0 w1)⟩
          show (if w = 0 then _ else if w = 1 then _ else _) = _
          rw [if_neg w0, if_neg w1]
theorem szO_neg (bd : List Int32) : szO bd (-1) = -1 := if_pos (by decide)
theorem btO_neg (bs bd : List Int32) (i : Int32) : btO bs bd (-1) i = -1 := by
  unfold btO
  by_cases h : i < 0
  · rw [if_pos h]
  · rw [if_neg h, szO_neg, if_pos (Int32.le_trans (by decide) (Int32.not_lt.mp h))]
theorem field_F (F : Flds) (f w : Int32) (hF : F.length ≤ 40) : szO (bnF F) (hdT (nI F.length) f w) = oL (fdt F f w) := by
  rcases hdT_F F f w hF with ⟨h1, h2⟩ | ⟨j, q, h1, ⟨h2, h3⟩ | ⟨h2, h3⟩⟩
  · rw [h1, h2, szO_neg]; rfl
  · rw [h2, h3, (szO_F hF h1).1]; rfl
  · rw [h2, h3, (szO_F hF h1).2]; rfl
theorem byte_F (F : Flds) (f w i : Int32) (hF : F.length ≤ 40) (hK : (fK F).length ≤ 1501) : btO (fK F) (bnF F) (hdT (nI F.length) f w) i = oB (fdt F f w) i := by
  rcases hdT_F F f w hF with ⟨h1, h2⟩ | ⟨j, q, h1, ⟨h2, h3⟩ | ⟨h2, h3⟩⟩
  · rw [h1, h2, btO_neg]; rfl
  · rw [h2, h3, (btO_F hF hK h1 i).1]; rfl
  · rw [h2, h3, (btO_F hF hK h1 i).2]; rfl
/-- a name is the tape's, byte by byte -/
theorem nmF_eq {bs bd T nm : List Int32} {k : Int32} (hb : ∀ i, btO bs bd k i = rg nm i) (hl : nm.length = T.length) (hl2 : T.length < 2 ^ 31) : ∀ (d i : Nat), i + d = T.length → nmF bs bd T k d i = eqS (nm.drop i) (T.drop i)
  | 0, i, h => by
    rw [List.drop_eq_nil_of_le (by omega), List.drop_eq_nil_of_le (by omega)]
    rfl
  | d + 1, i, h => by
    have ih := nmF_eq hb hl hl2 d (i + 1) (by omega)
    rw [List.drop_eq_getElem_cons (show i < nm.length by omega), List.drop_eq_getElem_cons (show i < T.length by omega)]
    show (decide (sp_small (btO bs bd k (nI i)) = sp_small (rg T (nI i))) && nmF bs bd T k d (i + 1)) = (decide (sp_small nm[i] = sp_small T[i]) && eqS (nm.drop (i + 1)) (T.drop (i + 1)))
    rw [ih, hb, rg_at (List.getElem?_eq_getElem (show i < nm.length by omega)) (by omega), rg_at (List.getElem?_eq_getElem (show i < T.length by omega)) (by omega)]
theorem nmO_F {F : Flds} {j : Nat} {q : List Int32 × List Int32} {T : List Int32} (hF : F.length ≤ 40) (hK : (fK F).length ≤ 1501) (h : F[j]? = some q) (hT : T.length ≤ 1500) : nmO (fK F) (bnF F) T (nI (2 * j)) = eqS q.1 T := by
  unfold nmO
  rw [(szO_F hF h).1]
  have hq : q.1.length ≤ 1501 := by
    have hf := (List.getElem?_eq_some_iff.mp h)
    have e1 : F = F.take j ++ (q :: F.drop (j + 1)) := by rw [← hf.2, List.getElem_cons_drop, List.take_append_drop]
    have e2 := congrArg (fun l => (fK l).length) e1
    simp only [fK, List.flatMap_append, List.flatMap_cons, List.length_append] at e2
    simp only [fK] at hK
    omega
  by_cases hl : q.1.length = T.length
  · rw [hl, decide_eq_true rfl, Bool.true_and, nmF_eq (fun i => (btO_F hF hK h i).1) hl (by omega) T.length 0 (Nat.zero_add _)]
    rfl
  · rw [decide_eq_false (fun z => hl ((nI_eq (by omega) (by omega)).mp z)), Bool.false_and]
    cases he : eqS q.1 T with
    | false => rfl
    | true => exact absurd (eqS_len _ _ he) hl
section FIND2
variable {G : gl_G} {cI : ClassId} {h : hp_T} {X : Nat} {σ : rwT} {F : Flds} {bd : Nat}
theorem w_count (S : tS cI X h σ) (H : hS X h σ F false bd) : ct_E G m_Head_count [.ref (X + 4)] h (cv (.int (nI F.length)) h) := by
  have m5 : (5 : Nat) ∈ txs := by decide
  have k := ct_of_cp (G := G) (p_Head_count H.1 (tS_tx S m5))
  have ec : (nI (σ (5 + 3)).2.2.length - 1) / 2 = nI F.length := by
    have h5 := H.2.2.2.2
    rw [show (σ (5 + 3)).2.2 = bnF F from H.2.2.1, bnF_len, nI_pred, show nI (2 * F.length) / 2 = nI (2 * F.length / 2) from pk_div (d := 2) (by omega) (by decide) (by decide), Nat.mul_div_cancel_left _ (by decide)]
  rw [ec] at k
  exact k
theorem l_firstNamed (hNm : gl_nm G) (hT : (gl_t G)[0]? = some (cI, .int)) (S : tS cI X h σ) (H : hS X h σ F false bd) (hK : (fK F).length ≤ 1501) (hT2 : (σ 2).2.2.length ≤ 1500) : ∀ (Q : Flds) (f : Nat), F.drop f = Q → f + Q.length = F.length → ev_E G m_Head_firstNamed 2 [(0, .ref (X + 4)), (1, .ref (X + 2)), (2, .int (nI f))] [] h (cv (.int (fnd (σ 2).2.2 Q f)) h) := by
  have m5 : (5 : Nat) ∈ txs := by decide
  have m2 : (2 : Nat) ∈ rws := by decide
  have h5 := H.2.2.2.2
  intro Q
  induction Q with
  | nil =>
    intro f hd hl
    simp only [List.length_nil] at hl
    refine ev_iload_n d_Head_firstNamed_2 rfl rfl ?_
    refine ev_aload_n d_Head_firstNamed_3 rfl rfl ?_
    refine ev_Vv (ci := 2) [] [.int (nI f)] ca_Head_firstNamed_30 d_Head_firstNamed_4 rfl (H.1) rfl (Nat.le_of_ble_eq_true rfl) (w_count S H) ?_
    refine ev_icmp_ge (tgt := 32) d_Head_firstNamed_7 (by decide) (fun _ => ?_) (fun z => absurd (nI_le (by omega) (by omega)) z)
    refine ev_iconst (v := (-1)) d_Head_firstNamed_32 (by decide) ?_
    refine ev_iret d_Head_firstNamed_33 rfl ?_
    exact ⟨rfl, rfl⟩
  | cons q Q ih =>
    intro f hd hl
    simp only [List.length_cons] at hl
    have hq : F[f]? = some q := by
      have := congrArg (fun l => l[0]?) hd
      simpa using this
    have hd2 : F.drop (f + 1) = Q := by
      have := congrArg (fun l => l.drop 1) hd
      simpa [List.drop_drop, Nat.add_comm] using this
    refine ev_iload_n d_Head_firstNamed_2 rfl rfl ?_
    refine ev_aload_n d_Head_firstNamed_3 rfl rfl ?_
    refine ev_Vv (ci := 2) [] [.int (nI f)] ca_Head_firstNamed_30 d_Head_firstNamed_4 rfl (H.1) rfl (Nat.le_of_ble_eq_true rfl) (w_count S H) ?_
    refine ev_icmp_ge (tgt := 32) d_Head_firstNamed_7 (by decide) (fun z => absurd z (nI_ge (by omega) (by omega))) (fun _ => ?_)
    refine ev_aload_n d_Head_firstNamed_10 rfl rfl ?_
    refine ev_get (fa_Head_12 rfl rfl) d_Head_firstNamed_11 H.1 rfl ?_
    refine ev_iconst (v := 2) d_Head_firstNamed_14 (by decide) ?_
    refine ev_iload_n d_Head_firstNamed_15 rfl rfl ?_
    refine ev_imul d_Head_firstNamed_16 ?_
    rw [show (2 : Int32) * nI f = nI (2 * f) from pk_mul 2 f]
    refine ev_aload_n d_Head_firstNamed_17 rfl rfl ?_
    refine ev_Vv (ci := 3) [.int (nI (2 * f)), .ref (X + 2)] [] ca_Head_firstNamed_31 d_Head_firstNamed_18 rfl ((S.2 5 m5)) rfl (Nat.le_of_ble_eq_true rfl) (w_isNamed hNm hT S m5 m2 (nI (2 * f))) ?_
    rw [show nmO (σ (5 + 1)).2.2 (σ (5 + 3)).2.2 (σ 2).2.2 (nI (2 * f)) = eqS q.1 (σ 2).2.2 from by
      rw [show (σ (5 + 1)).2.2 = fK F from H.2.1, show (σ (5 + 3)).2.2 = bnF F from H.2.2.1]
      exact nmO_F h5 hK hq hT2]
    cases he : eqS q.1 (σ 2).2.2 with
    | true =>
      refine ev_if_eq (tgt := 26) d_Head_firstNamed_21 (by decide) (fun z => absurd (show (1 : Int32) = 0 from z) (by decide)) (fun _ => ?_)
      refine ev_iload_n d_Head_firstNamed_24 rfl rfl ?_
      refine ev_iret d_Head_firstNamed_25 rfl ?_
      rw [show fnd (σ 2).2.2 (q :: Q) f = nI f from if_pos he]
      exact ⟨rfl, rfl⟩
    | false =>
      refine ev_if_eq (tgt := 26) d_Head_firstNamed_21 (by decide) (fun _ => ?_) (fun z => absurd rfl z)
      refine ev_iinc d_Head_firstNamed_26 rfl (by decide) ?_
      refine ev_goto (tgt := 2) d_Head_firstNamed_29 (by decide) ?_
      rw [show nI f + Int32.ofInt 1 = nI (f + 1) from nI_1 f, show fnd (σ 2).2.2 (q :: Q) f = fnd (σ 2).2.2 Q (f + 1) from if_neg (by rw [he]; decide)]
      exact ih (f + 1) hd2 (by omega)
theorem w_firstNamed (hNm : gl_nm G) (hT : (gl_t G)[0]? = some (cI, .int)) (S : tS cI X h σ) (H : hS X h σ F false bd) (hK : (fK F).length ≤ 1501) (hT2 : (σ 2).2.2.length ≤ 1500) : ct_E G m_Head_firstNamed [.ref (X + 4), .ref (X + 2)] h (cv (.int (fnd (σ 2).2.2 F 0)) h) := by
  refine ct_of (ws' := tb_all) rfl rfl (Nat.le_of_ble_eq_true rfl) ?_
  refine ev_iconst (v := 0) d_Head_firstNamed_0 (by decide) ?_
  refine ev_istore_n d_Head_firstNamed_1 rfl (by decide) ?_
  exact l_firstNamed hNm hT S H hK hT2 F 0 rfl (Nat.zero_add _)
end FIND2
