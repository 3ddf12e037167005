/-! the class: parameters looked up, and the hand, strong -/
/-- the parameters Q stand in the rows of a type -/
def ctQ (σ : rwT) (Q : List Prm) : Prop := txH σ 46 (Q.map (fun q => q.1.map sp_small)) [] ∧ txH σ 51 (Q.map (fun q => q.2.2.2)) [] ∧ (σ 56).2.2 = Q.map (fun q => q.2.1) ∧ (σ 58).2.2 = Q.map (fun q => bI q.2.2.1)
theorem ctQ_same {σ σ' : rwT} {Q : List Prm} (H : ctQ σ Q) (h : ∀ τ ∈ [47, 49, 52, 54, 56, 58], (σ' τ).2.2 = (σ τ).2.2) : ctQ σ' Q := ⟨txH_same H.1 (h 47 (by decide)) (h 49 (by decide)), txH_same H.2.1 (h 52 (by decide)) (h 54 (by decide)), (h 56 (by decide)).trans H.2.2.1, (h 58 (by decide)).trans H.2.2.2⟩
theorem small_2 (c : Int32) : sp_small (sp_small c) = sp_small c := by
  unfold sp_small
  by_cases h : ¬ c < 65 ∧ ¬ 90 < c
  · rw [if_pos h]
    obtain ⟨j, hj, rfl⟩ := nI_of (x := c) (fun z => h.1 (Int32.lt_trans z (by decide)))
    have h1 : ¬ j < 65 := fun z => h.1 (nI_lt (b := 65) z (by decide))
    have h2 : ¬ 90 < j := fun z => h.2 (nI_lt (a := 90) z hj)
    rw [show nI j + 32 = nI (j + 32) from nI_add j 32]
    exact if_neg (fun z => z.2 (nI_lt (a := 90) (by omega) (by omega)))
  · rw [if_neg h, if_neg h]
theorem eqS_small : ∀ a b : List Int32, eqS (a.map sp_small) b = eqS a b
  | [], [] => rfl
  | [], y :: b => rfl
  | x :: a, [] => rfl
  | x :: a, y :: b => by simp only [List.map_cons, eqS, small_2, eqS_small a b]
theorem nmO_T {Ls : List (List Int32)} {op l nm : List Int32} {k : Nat} (hL : Ls.length < 2 ^ 30) (hb : Ls.flatten.length < 2 ^ 30) (h : Ls[k]? = some l) (hn : nm.length ≤ 1500) : nmO (Ls.flatten ++ op) (bnT Ls) nm (nI k) = eqS l nm := by
  have hl2 : l.length < 2 ^ 30 := by
    obtain ⟨e1, -⟩ := flat_take h
    have := congrArg List.length e1
    simp only [List.length_append] at this
    omega
  unfold nmO
  rw [szT hL h]
  by_cases hl : l.length = nm.length
  · rw [hl, decide_eq_true rfl, Bool.true_and, nmF_eq (fun i => btT hL hb h i) hl (by omega) nm.length 0 (Nat.zero_add _)]
    rfl
  · rw [decide_eq_false (fun z => hl ((nI_eq (by omega) (by omega)).mp z)), Bool.false_and]
    cases he : eqS l nm with
    | false => rfl
    | true => exact absurd (eqS_len _ _ he) hl
section HAND
variable {G : gl_G} {cI : ClassId} {X : Nat}
theorem row_le {h : hp_T} {σ : rwT} (S : tS cI X h σ) {ρ : Nat} (hρ : ρ ∈ rws) : (σ ρ).2.2.length ≤ 4096 := by
  obtain ⟨⟨-, f, -, a, -⟩, ⟨k, hk, e⟩, -⟩ := S.1.1 ρ hρ
  have : 2 ^ k ≤ 2 ^ 8 := Nat.pow_le_pow_right (by decide) hk
  have e2 : (2 : Nat) ^ 8 = 256 := by decide
  omega
theorem txH_le {h : hp_T} {σ : rwT} (S : tS cI X h σ) {t : Nat} (ht : t ∈ txs) {Ls : List (List Int32)} {op : List Int32} (H : txH σ t Ls op) : Ls.length < 4096 ∧ Ls.flatten.length + op.length ≤ 4096 := by
  have h1 := row_le S (txs_in t ht).1
  have h3 := row_le S (txs_in t ht).2.1
  rw [H.1, List.length_append] at h1
  rw [H.2, bnT_len] at h3
  exact ⟨by omega, h1⟩
theorem ly_firstOf (hNm : gl_nm G) (hT : (gl_t G)[0]? = some (cI, .int)) {h : hp_T} {σ : rwT} (S : tS cI X h σ) (O : cO X h) {Q0 : List Prm} (HQ : ctQ σ Q0) (hT2 : (σ 2).2.2.length ≤ 1500) {p : Int32} : ∀ (Q : List Prm) (i : Nat), Q0.drop i = Q → i + Q.length = Q0.length → ev_E G m_ContentType_firstOf 2 [(0, .ref (X + 40)), (1, .ref (X + 2)), (2, .int p), (3, .int (nI i))] [] h (cv (.int (pmF (σ 2).2.2 p Q i)) h) := by
  have m46 : (46 : Nat) ∈ txs := by decide
  have m56 : (56 : Nat) ∈ rws := by decide
  have m2 : (2 : Nat) ∈ rws := by decide
  obtain ⟨b1, b2⟩ := txH_le S m46 HQ.1
  rw [List.length_map] at b1
  have hcount : nI (σ (46 + 3)).2.2.length - 1 = nI Q0.length := by
    rw [show (σ (46 + 3)).2.2 = _ from HQ.1.2, bnT_len, List.length_map, nI_pred]
  intro Q
  induction Q with
  | nil =>
    intro i hd hi
    simp only [List.length_nil] at hi
    refine ev_iload_n d_ContentType_firstOf_2 rfl rfl ?_
    refine ev_aload_n d_ContentType_firstOf_3 rfl rfl ?_
    refine ev_get (fa_ContentType_22 rfl rfl) d_ContentType_firstOf_4 O.1 rfl ?_
    refine ev_Vv (ci := 3) [] [.int (nI i)] ca_ContentType_firstOf_107 d_ContentType_firstOf_7 rfl ((S.2 46 m46)) rfl (Nat.le_of_ble_eq_true rfl) (c_Texts_count (tS_tx S m46)) ?_
    rw [hcount]
    refine ev_icmp_ge (tgt := 45) d_ContentType_firstOf_10 (by decide) (fun _ => ?_) (fun z => absurd (nI_le (by omega) (by omega)) z)
    refine ev_iconst (v := (-1)) d_ContentType_firstOf_45 (by decide) ?_
    refine ev_iret d_ContentType_firstOf_46 rfl ?_
    exact ⟨rfl, rfl⟩
  | cons q Q ih =>
    intro i hd hi
    simp only [List.length_cons] at hi
    have hq : Q0[i]? = some q := by
      have := congrArg (fun z => z[0]?) hd
      simpa using this
    have hd2 : Q0.drop (i + 1) = Q := by
      have := congrArg (fun z => z.drop 1) hd
      simpa [List.drop_drop, Nat.add_comm] using this
    have on : ¬ (q.2.1 = p ∧ eqS q.1 (σ 2).2.2 = true) → ev_E G m_ContentType_firstOf 39 [(0, .ref (X + 40)), (1, .ref (X + 2)), (2, .int p), (3, .int (nI i))] [] h (cv (.int (pmF (σ 2).2.2 p (q :: Q) i)) h) := by
      intro hn
      rw [pmF, if_neg hn]
      refine ev_iinc d_ContentType_firstOf_39 rfl (by decide) ?_
      refine ev_goto (tgt := 2) d_ContentType_firstOf_42 (by decide) ?_
      rw [show nI i + Int32.ofInt 1 = nI (i + 1) from nI_1 i]
      exact ih (i + 1) hd2 (by omega)
    refine ev_iload_n d_ContentType_firstOf_2 rfl rfl ?_
    refine ev_aload_n d_ContentType_firstOf_3 rfl rfl ?_
    refine ev_get (fa_ContentType_22 rfl rfl) d_ContentType_firstOf_4 O.1 rfl ?_
    refine ev_Vv (ci := 3) [] [.int (nI i)] ca_ContentType_firstOf_107 d_ContentType_firstOf_7 rfl ((S.2 46 m46)) rfl (Nat.le_of_ble_eq_true rfl) (c_Texts_count (tS_tx S m46)) ?_
    rw [hcount]
    refine ev_icmp_ge (tgt := 45) d_ContentType_firstOf_10 (by decide) (fun z => absurd z (nI_ge (by omega) (by omega))) (fun _ => ?_)
    refine ev_aload_n d_ContentType_firstOf_13 rfl rfl ?_
    refine ev_get (fa_ContentType_31 rfl rfl) d_ContentType_firstOf_14 O.1 rfl ?_
    refine ev_iload_n d_ContentType_firstOf_17 rfl rfl ?_
    refine ev_Vv (ci := 1) [.int (nI i)] [] ca_ContentType_firstOf_54 d_ContentType_firstOf_18 rfl ((S.1.1 _ m56).1.1) rfl (Nat.le_of_ble_eq_true rfl) (w_get hT S.1 m56 (nI i)) ?_
    rw [HQ.2.2.1, rg_at (show (Q0.map (fun q => q.2.1))[i]? = some q.2.1 by rw [List.getElem?_map, hq]; rfl) (by omega)]
    refine ev_iload_n d_ContentType_firstOf_21 rfl rfl ?_
    by_cases hp : q.2.1 = p
    · refine ev_icmp_ne (tgt := 39) d_ContentType_firstOf_22 (by decide) (fun z => absurd hp z) (fun _ => ?_)
      refine ev_aload_n d_ContentType_firstOf_25 rfl rfl ?_
      refine ev_get (fa_ContentType_22 rfl rfl) d_ContentType_firstOf_26 O.1 rfl ?_
      refine ev_iload_n d_ContentType_firstOf_29 rfl rfl ?_
      refine ev_aload_n d_ContentType_firstOf_30 rfl rfl ?_
      refine ev_Vv (ci := 3) [.int (nI i), .ref (X + 2)] [] ca_ContentType_firstOf_110 d_ContentType_firstOf_31 rfl ((S.2 46 m46)) rfl (Nat.le_of_ble_eq_true rfl) (w_isNamed hNm hT S m46 m2 (nI i)) ?_
      rw [show nmO (σ (46 + 1)).2.2 (σ (46 + 3)).2.2 (σ 2).2.2 (nI i) = eqS q.1 (σ 2).2.2 from by
        rw [show (σ (46 + 1)).2.2 = _ from HQ.1.1, show (σ (46 + 3)).2.2 = _ from HQ.1.2, nmO_T (by rw [List.length_map]; omega) (by omega) (show (Q0.map (fun q => q.1.map sp_small))[i]? = some (q.1.map sp_small) by rw [List.getElem?_map, hq]; rfl) hT2, eqS_small]]
      cases he : eqS q.1 (σ 2).2.2 with
      | true =>
        refine ev_if_eq (tgt := 39) d_ContentType_firstOf_34 (by decide) (fun z => absurd (show (1 : Int32) = 0 from z) (by decide)) (fun _ => ?_)
        rw [pmF, if_pos ⟨hp, he⟩]
        refine ev_iload_n d_ContentType_firstOf_37 rfl rfl ?_
        refine ev_iret d_ContentType_firstOf_38 rfl ?_
        exact ⟨rfl, rfl⟩
      | false =>
        refine ev_if_eq (tgt := 39) d_ContentType_firstOf_34 (by decide) (fun _ => ?_) (fun z => absurd rfl z)
        exact on (fun z => by rw [he] at z; exact absurd z.2 (by decide))
    · refine ev_icmp_ne (tgt := 39) d_ContentType_firstOf_22 (by decide) (fun _ => ?_) (fun z => absurd z hp)
      exact on (fun z => hp z.1)
theorem y_firstOf (hNm : gl_nm G) (hT : (gl_t G)[0]? = some (cI, .int)) {h : hp_T} {σ : rwT} (S : tS cI X h σ) (O : cO X h) {Q : List Prm} (HQ : ctQ σ Q) (hT2 : (σ 2).2.2.length ≤ 1500) (p : Int32) : ct_E G m_ContentType_firstOf [.ref (X + 40), .ref (X + 2), .int p] h (cv (.int (pmF (σ 2).2.2 p Q 0)) h) := by
  refine ct_of (ws' := tb_all) rfl rfl (Nat.le_of_ble_eq_true rfl) ?_
  refine ev_iconst (v := 0) d_ContentType_firstOf_0 (by decide) ?_
  refine ev_istore_n d_ContentType_firstOf_1 rfl (by decide) ?_
  exact ly_firstOf hNm hT S O HQ hT2 Q 0 rfl (Nat.zero_add _)
theorem ly_quoteFrom (hT : (gl_t G)[0]? = some (cI, .int)) {h : hp_T} {σ : rwT} (S : tS cI X h σ) (O : cO X h) {Q : List Prm} (HQ : ctQ σ Q) {k : Nat} {q : Prm} (hq : Q[k]? = some q) {f : Int32} : ∀ (d i : Nat), i + d = q.2.2.2.length → ev_E G m_ContentType_quoteFrom 12 [(0, .ref (X + 40)), (1, .int (nI k)), (2, .int f), (3, .int (nI q.2.2.2.length)), (4, .int (nI i))] [] h (cv (.int (if i + cnt (neq 39) (q.2.2.2.drop i) < q.2.2.2.length then nI (i + cnt (neq 39) (q.2.2.2.drop i)) else -1)) h) := by
  have m51 : (51 : Nat) ∈ txs := by decide
  obtain ⟨b1, b2⟩ := txH_le S m51 HQ.2.1
  have hv : (Q.map (fun q => q.2.2.2))[k]? = some q.2.2.2 := by rw [List.getElem?_map, hq]; rfl
  have hlv : q.2.2.2.length ≤ 4096 := by
    obtain ⟨e1, -⟩ := flat_take hv
    have := congrArg List.length e1
    simp only [List.length_append] at this
    omega
  intro d
  induction d with
  | zero =>
    intro i hi
    have e0 : q.2.2.2.drop i = [] := List.drop_eq_nil_of_le (by omega)
    rw [e0, if_neg (by simp [cnt]; omega)]
    refine ev_iload d_ContentType_quoteFrom_12 rfl ?_
    refine ev_iload_n d_ContentType_quoteFrom_14 rfl rfl ?_
    refine ev_icmp_ge (tgt := 42) d_ContentType_quoteFrom_15 (by decide) (fun _ => ?_) (fun z => absurd (nI_le (by omega) (by omega)) z)
    refine ev_iconst (v := (-1)) d_ContentType_quoteFrom_42 (by decide) ?_
    refine ev_iret d_ContentType_quoteFrom_43 rfl ?_
    exact ⟨rfl, rfl⟩
  | succ d ih =>
    intro i hi
    have da := drop_at (show i < q.2.2.2.length by omega) (by omega)
    refine ev_iload d_ContentType_quoteFrom_12 rfl ?_
    refine ev_iload_n d_ContentType_quoteFrom_14 rfl rfl ?_
    refine ev_icmp_ge (tgt := 42) d_ContentType_quoteFrom_15 (by decide) (fun z => absurd z (nI_ge (by omega) (by omega))) (fun _ => ?_)
    refine ev_aload_n d_ContentType_quoteFrom_18 rfl rfl ?_
    refine ev_get (fa_ContentType_25 rfl rfl) d_ContentType_quoteFrom_19 O.1 rfl ?_
    refine ev_iload_n d_ContentType_quoteFrom_22 rfl rfl ?_
    refine ev_iload d_ContentType_quoteFrom_23 rfl ?_
    refine ev_Vv (ci := 3) [.int (nI k), .int (nI i)] [] ca_ContentType_quoteFrom_82 d_ContentType_quoteFrom_25 rfl ((S.2 51 m51)) rfl (Nat.le_of_ble_eq_true rfl) (w_byteOf hT S m51 (nI k) (nI i)) ?_
    rw [show btO (σ (51 + 1)).2.2 (σ (51 + 3)).2.2 (nI k) (nI i) = rg q.2.2.2 (nI i) from by
      rw [show (σ (51 + 1)).2.2 = _ from HQ.2.1.1, show (σ (51 + 3)).2.2 = _ from HQ.2.1.2]
      exact btT (by omega) (by omega) hv _]
    generalize hy : rg q.2.2.2 (nI i) = y at da
    refine ev_bipush (v := 39) d_ContentType_quoteFrom_28 (by decide) ?_
    by_cases h39 : y = 39
    · refine ev_icmp_ne (tgt := 36) d_ContentType_quoteFrom_30 (by decide) (fun z => absurd h39 z) (fun _ => ?_)
      refine ev_iload d_ContentType_quoteFrom_33 rfl ?_
      refine ev_iret d_ContentType_quoteFrom_35 rfl ?_
      rw [da, cnt_no (show neq 39 y = false by simp [neq, h39]), Nat.add_zero, if_pos (by omega)]
      exact ⟨rfl, rfl⟩
    · refine ev_icmp_ne (tgt := 36) d_ContentType_quoteFrom_30 (by decide) (fun _ => ?_) (fun z => absurd z h39)
      refine ev_iinc d_ContentType_quoteFrom_36 rfl (by decide) ?_
      refine ev_goto (tgt := 12) d_ContentType_quoteFrom_39 (by decide) ?_
      rw [show nI i + Int32.ofInt 1 = nI (i + 1) from nI_1 i, da, cnt_yes (show neq 39 y = true by simp [neq, h39]), show i + (cnt (neq 39) (q.2.2.2.drop (i + 1)) + 1) = i + 1 + cnt (neq 39) (q.2.2.2.drop (i + 1)) by omega]
      exact ih (i + 1) (by omega)
theorem y_quoteFrom (hT : (gl_t G)[0]? = some (cI, .int)) {h : hp_T} {σ : rwT} (S : tS cI X h σ) (O : cO X h) {Q : List Prm} (HQ : ctQ σ Q) {k : Nat} {q : Prm} (hq : Q[k]? = some q) {i : Nat} (hi : i ≤ q.2.2.2.length) : ct_E G m_ContentType_quoteFrom [.ref (X + 40), .int (nI k), .int (nI i)] h (cv (.int (if i + cnt (neq 39) (q.2.2.2.drop i) < q.2.2.2.length then nI (i + cnt (neq 39) (q.2.2.2.drop i)) else -1)) h) := by
  have m51 : (51 : Nat) ∈ txs := by decide
  obtain ⟨b1, b2⟩ := txH_le S m51 HQ.2.1
  have hv : (Q.map (fun q => q.2.2.2))[k]? = some q.2.2.2 := by rw [List.getElem?_map, hq]; rfl
  refine ct_of (ws' := tb_all) rfl rfl (Nat.le_of_ble_eq_true rfl) ?_
  refine ev_aload_n d_ContentType_quoteFrom_0 rfl rfl ?_
  refine ev_get (fa_ContentType_25 rfl rfl) d_ContentType_quoteFrom_1 O.1 rfl ?_
  refine ev_iload_n d_ContentType_quoteFrom_4 rfl rfl ?_
  refine ev_Vv (ci := 3) [.int (nI k)] [] ca_ContentType_quoteFrom_72 d_ContentType_quoteFrom_5 rfl ((S.2 51 m51)) rfl (Nat.le_of_ble_eq_true rfl) (w_sizeOf hT S m51 (nI k)) ?_
  rw [show szO (σ (51 + 3)).2.2 (nI k) = nI q.2.2.2.length from by rw [show (σ (51 + 3)).2.2 = _ from HQ.2.1.2]; exact szT (by omega) hv]
  refine ev_istore_n d_ContentType_quoteFrom_8 rfl (by decide) ?_
  refine ev_iload_n d_ContentType_quoteFrom_9 rfl rfl ?_
  refine ev_istore d_ContentType_quoteFrom_10 (by decide) ?_
  exact ly_quoteFrom hT S O HQ hq (q.2.2.2.length - i) i (by omega)
end HAND
