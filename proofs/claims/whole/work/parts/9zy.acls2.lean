/-! the class: addresses, strong: what makes -/
/-- what a word may cost -/
def ewt (w : Int32 × Int32 × List Int32) : Nat := w.2.2.length + (if w.1 = 2 then 2 else 1)
def eW : Wds → Nat
  | [] => 0
  | w :: t => ewt w + eW t
theorem eW_app : ∀ A B : Wds, eW (A ++ B) = eW A + eW B
  | [], B => by simp [eW]
  | w :: A, B => by
    rw [List.cons_append, eW, eW, eW_app A B]
    omega
theorem eW_sl {g : Wds} {a b : Nat} (hab : a ≤ b) (hb : b ≤ g.length) : eW (g.take a) + eW (ad_sl g a b) = eW (g.take b) := by
  have e := sl_cut (W := g) (a := 0) (m := a) (b := b) (Nat.zero_le _) hab hb
  have e0 : ∀ k, ad_sl g 0 k = g.take k := fun k => List.drop_zero
  rw [e0, e0] at e
  rw [e, eW_app]
theorem eW_mono {g : Wds} {a b : Nat} (hab : a ≤ b) (hb : b ≤ g.length) : eW (g.take a) ≤ eW (g.take b) := by
  have := eW_sl hab hb
  omega
theorem eW_all (g : Wds) : eW (g.take g.length) = eW g := by rw [List.take_length]
theorem spc_cls (S : Wds) : ad_spc S = match ad_dE true S with
    | none => none
    | some n => if S.length ≤ n then some n else match S[n]? with
      | some w => bif wIs w 64 && ad_dom (S.drop (n + 1)) then some n else none
      | none => none := by
  rw [ad_dE_eq]
  unfold ad_spc ad_dF
  by_cases hz : ad_rE true S = 0
  · rw [if_pos hz, if_pos hz]
  · rw [if_neg hz, if_neg hz]
    cases hx : S[ad_rE true S]? with
    | none =>
      have hle : S.length ≤ ad_rE true S := by
        rcases Nat.lt_or_ge (ad_rE true S) S.length with q | q
        · rw [List.getElem?_eq_getElem q] at hx; cases hx
        · exact q
      simp only
      rw [List.drop_eq_nil_of_le hle, if_pos hle]
    | some w =>
      have hlt := (List.getElem?_eq_some_iff.mp hx).1
      rw [go_dr hx]
      cases h46 : wIs w 46 with
      | true =>
        simp only [h46, cond_true]
        rw [wIs_ne h46 (by decide)]
        rfl
      | false =>
        simp only [h46, cond_false]
        rw [if_neg (by omega), hx]
theorem dE_le {q : Bool} {S : Wds} {n : Nat} (h : ad_dE q S = some n) : n ≤ S.length ∧ 1 ≤ n := by
  rw [ad_dE_eq] at h
  unfold ad_dF at h
  have hle := ad_rE_le q S
  by_cases hz : ad_rE q S = 0
  · rw [if_pos hz] at h; cases h
  · rw [if_neg hz] at h
    cases hx : S[ad_rE q S]? with
    | none => rw [hx] at h; cases h; omega
    | some w =>
      rw [hx] at h
      cases h46 : wIs w 46 with
      | true => simp [h46] at h
      | false =>
        simp only [h46, cond_false] at h
        cases h
        omega
theorem nI_dec {n : Nat} (h : 1 ≤ n) : nI n + Int32.ofInt (-1) = nI (n - 1) := by
  rw [show nI n + Int32.ofInt (-1) = nI n - nI 1 from by rw [Int32.sub_eq_add_neg]; rfl, pk_sub h]
theorem txs_ac : ∀ t ∈ [19, 26], ∀ τ ∈ [12, 14, 16, 31], τ ∉ [t + 1] := by decide
theorem txs_ac2 : ∀ t ∈ [19, 26], t ∈ txs ∧ t ≠ 11 := by decide
/-- the comment that is kept -/
def cmS (W : Wds) (c : Int32) (cm : List Int32) : Prop := (c = -1 ∧ cm = []) ∨ ∃ j w, c = nI j ∧ W[j]? = some w ∧ cm = w.2.2
section ACL2
variable {G : gl_G} {cI : ClassId} {X : Nat}
theorem y_putText_no (hT : (gl_t G)[0]? = some (cI, .int)) {h : hp_T} {σ : rwT} (S : tS cI X h σ) {t u : Nat} (hu : u ∈ txs) {Lu : List (List Int32)} {ou : List Int32} (U : txH σ u Lu ou) (hb1 : Lu.length < 2 ^ 30) : ct_E G m_Texts_putText [.ref (X + t), .ref (X + u), .int (-1)] h (cn (fun h' => h' = h)) := by
  obtain ⟨-, u3, -, -⟩ := txs_in u hu
  refine ct_of (ws' := tb_all) rfl rfl (Nat.le_of_ble_eq_true rfl) ?_
  refine ev_aload_n d_Texts_putText_0 rfl rfl ?_
  refine ev_get (fa_Texts_18 rfl rfl) d_Texts_putText_1 (S.2 u hu) rfl ?_
  refine ev_iload_n d_Texts_putText_4 rfl rfl ?_
  refine ev_Vv (ci := 1) [.int (-1)] [] ca_Texts_putText_29 d_Texts_putText_5 rfl ((S.1.1 _ u3).1.1) rfl (Nat.le_of_ble_eq_true rfl) (w_get hT S.1 u3 (-1)) ?_
  refine ev_istore_n d_Texts_putText_8 rfl (by decide) ?_
  refine ev_aload_n d_Texts_putText_9 rfl rfl ?_
  refine ev_iload_n d_Texts_putText_10 rfl rfl ?_
  refine ev_Vv (ci := 3) [.int (-1)] [] ca_Texts_putText_33 d_Texts_putText_11 rfl ((S.2 u hu)) rfl (Nat.le_of_ble_eq_true rfl) (w_sizeOf hT S hu (-1)) ?_
  rw [U.2, szT_no hb1 (Or.inl (by decide))]
  refine ev_istore d_Texts_putText_14 (by decide) ?_
  refine ev_iconst (v := 0) d_Texts_putText_16 (by decide) ?_
  refine ev_istore d_Texts_putText_17 (by decide) ?_
  refine ev_iload d_Texts_putText_19 rfl ?_
  refine ev_iload d_Texts_putText_21 rfl ?_
  refine ev_icmp_ge (tgt := 50) d_Texts_putText_23 (by decide) (fun _ => ?_) (fun z => absurd (by decide) z)
  refine ev_vret d_Texts_putText_50 rfl ?_
  exact ⟨rfl, rfl⟩
theorem lz_putName (hT : (gl_t G)[0]? = some (cI, .int)) {t : Nat} (ht : t ∈ [19, 26]) {W g : Wds} {n : Nat} (hn : n ≤ g.length) {Ls : List (List Int32)} : ∀ (d i : Nat) (cur : List Int32) (h : hp_T) (σ : rwT), i + d = n → tS cI X h σ → aO X h → acW σ W g → txH σ t Ls cur → Ls.flatten.length + cur.length + eW (ad_sl g i n) < 4096 → ev_E G m_Addresses_putName 2 [(0, .ref (X + 18)), (1, .ref (X + t)), (2, .int (nI n)), (3, .int (nI i))] [] h (cn (tP cI X h σ [t + 1] (fun σ' => txH σ' t Ls (cur ++ ad_nT (decide (0 < i)) (ad_sl g i n))))) := by
  have m11 : (11 : Nat) ∈ txs := by decide
  have m31 : (31 : Nat) ∈ rws := by decide
  obtain ⟨htx, ht11⟩ := txs_ac2 t ht
  have hac := txs_ac t ht
  intro d
  induction d with
  | zero =>
    intro i cur h σ hd S O A H hb
    have hgl := ac_le S A
    rw [sl_nil (show n ≤ i by omega)]
    refine ev_iload_n d_Addresses_putName_2 rfl rfl ?_
    refine ev_iload_n d_Addresses_putName_3 rfl rfl ?_
    refine ev_icmp_ge (tgt := 52) d_Addresses_putName_4 (by decide) (fun _ => ?_) (fun z => absurd (nI_le (by omega) (by omega)) z)
    refine ev_vret d_Addresses_putName_52 rfl ?_
    refine ⟨rfl, σ, S, rwR_rf, fun _ _ => rfl, ?_⟩
    rw [show ∀ b, ad_nT b [] = [] from fun b => by cases b <;> rfl, List.append_nil]
    exact H
  | succ d ih =>
    intro i cur h σ hd S O A H hb
    have hgl := ac_le S A
    obtain ⟨⟨a, b, c, hA⟩, r, hW⟩ := id O
    have qi : g[i]? = some g[i] := List.getElem?_eq_getElem (by omega)
    generalize g[i] = w at qi
    have hwf := ac_wf A qi
    rw [sl_dr (show i < n by omega) hn qi] at hb ⊢
    rw [eW] at hb
    have hew : w.2.2.length + 1 ≤ ewt w := by unfold ewt; split <;> omega
    refine ev_iload_n d_Addresses_putName_2 rfl rfl ?_
    refine ev_iload_n d_Addresses_putName_3 rfl rfl ?_
    refine ev_icmp_ge (tgt := 52) d_Addresses_putName_4 (by decide) (fun z => absurd z (nI_ge (by omega) (by omega))) (fun _ => ?_)
    have a27 : ∀ (cur1 : List Int32) (h2 : hp_T) (σ2 : rwT), tS cI X h2 σ2 → aO X h2 → acW σ2 W g → txH σ2 t Ls cur1 → Ls.flatten.length + cur1.length + w.2.2.length + eW (ad_sl g (i + 1) n) < 4096 → rwR X h σ h2 σ2 → (∀ τ, τ ∉ [t + 1] → (σ2 τ).2.2 = (σ τ).2.2) → cur1 ++ (w.2.2 ++ ad_nT true (ad_sl g (i + 1) n)) = cur ++ ad_nT (decide (0 < i)) (w :: ad_sl g (i + 1) n) → ev_E G m_Addresses_putName 27 [(0, .ref (X + 18)), (1, .ref (X + t)), (2, .int (nI n)), (3, .int (nI i))] [] h2 (cn (tP cI X h σ [t + 1] (fun σ' => txH σ' t Ls (cur ++ ad_nT (decide (0 < i)) (w :: ad_sl g (i + 1) n))))) := by
      intro cur1 h2 σ2 S2 O2 A2 H2 hb2 r2 p2 ee
      obtain ⟨⟨a, b, c, hA2⟩, r, hW2⟩ := id O2
      obtain ⟨j, j1, j2⟩ := ga_at A2.2.1 (show i < 2 ^ 31 by omega) qi
      have hlw := A2.2.2.2
      refine ev_aload_n d_Addresses_putName_27 rfl rfl ?_
      refine ev_aload_n d_Addresses_putName_28 rfl rfl ?_
      refine ev_get (fa_Addresses_9 rfl rfl) d_Addresses_putName_29 hA2 rfl ?_
      refine ev_Vv (ci := 4) [] [.ref (X + t)] ca_Addresses_putName_115 d_Addresses_putName_32 rfl (hW2) rfl (Nat.le_of_ble_eq_true rfl) (w_wtexts hW2) ?_
      refine ev_aload_n d_Addresses_putName_35 rfl rfl ?_
      refine ev_get (fa_Addresses_32 rfl rfl) d_Addresses_putName_36 hA2 rfl ?_
      refine ev_iload_n d_Addresses_putName_39 rfl rfl ?_
      refine ev_Vv (ci := 1) [.int (nI i)] [.ref (X + 11), .ref (X + t)] ca_Addresses_putName_49 d_Addresses_putName_40 rfl ((S2.1.1 _ m31).1.1) rfl (Nat.le_of_ble_eq_true rfl) (w_get hT S2.1 m31 (nI i)) ?_
      rw [j1]
      refine ev_Vn (ci := 3) [.ref (X + 11), .int (nI j)] [] ca_Addresses_putName_118 d_Addresses_putName_43 rfl ((S2.2 t htx)) rfl (Nat.le_of_ble_eq_true rfl) (y_putText hT S2 htx m11 ht11 H2 A2.1.1 (tx_atN j2) (by rw [List.length_map, List.length_map]; omega) (by have := hlw.2; unfold wdB at this; omega) (by omega)) (fun h1 z => ?_)
      obtain ⟨σ3, S3, r3, p3, H3⟩ := z
      refine ev_iinc d_Addresses_putName_46 rfl (by decide) ?_
      refine ev_goto (tgt := 2) d_Addresses_putName_49 (by decide) ?_
      refine ev_as [(0, .ref (X + 18)), (1, .ref (X + t)), (2, .int (nI n)), (3, .int (nI (i + 1)))] ⟨rfl, rfl, rfl, ?_, trivial⟩ (ev_to (ih (i + 1) (cur1 ++ w.2.2) h1 σ3 (by omega) S3 (aO_go S2 r3 O2) (acW_same A2 (fun τ hτ => p3 τ (hac τ hτ))) H3 (by rw [List.length_append]; omega)) ?_)
      · show some (Value.int (nI i + Int32.ofInt 1)) = _
        rw [show nI i + Int32.ofInt 1 = nI (i + 1) from nI_1 i]
      · rintro o h' ⟨rfl, σ4, q1, q2, q3, q4⟩
        rw [decide_eq_true (show 0 < i + 1 by omega), List.append_assoc, ee] at q4
        exact ⟨rfl, σ4, q1, rwR_tr r2 (rwR_tr r3 q2), fun τ hτ => (q3 τ hτ).trans ((p3 τ hτ).trans (p2 τ hτ)), q4⟩
    refine ev_iload_n d_Addresses_putName_7 rfl rfl ?_
    rcases Nat.eq_zero_or_pos i with hz | hp
    · subst hz
      refine ev_if_le (tgt := 27) d_Addresses_putName_8 (by decide) (fun _ => ?_) (fun z => absurd (by decide) z)
      exact a27 cur h σ S O A H (by omega) rwR_rf (fun _ _ => rfl) rfl
    · refine ev_if_le (tgt := 27) d_Addresses_putName_8 (by decide) (fun z => absurd z (nI_nle hp (by omega))) (fun _ => ?_)
      rw [decide_eq_true hp] at a27 ⊢
      refine ev_aload_n d_Addresses_putName_11 rfl rfl ?_
      refine ev_iload_n d_Addresses_putName_12 rfl rfl ?_
      refine ev_Vv (ci := 5) [.int (nI i)] [] ca_Addresses_putName_100 d_Addresses_putName_13 rfl (hA) rfl (Nat.le_of_ble_eq_true rfl) (z_kindAt hT S O A (nI i)) ?_
      rw [gk_at (by omega) qi]
      refine ev_bipush (v := 46) d_Addresses_putName_16 (by decide) ?_
      cases h46 : wIs w 46 with
      | true =>
        refine ev_icmp_eq (tgt := 27) d_Addresses_putName_18 (by decide) (fun _ => ?_) (fun z => absurd ((cK_s hwf (by decide)).mpr h46) z)
        exact a27 cur h σ S O A H (by omega) rwR_rf (fun _ _ => rfl) (by rw [ad_nT, h46]; rfl)
      | false =>
        refine ev_icmp_eq (tgt := 27) d_Addresses_putName_18 (by decide) (fun z => absurd z (nK_s hwf (by decide) h46)) (fun _ => ?_)
        refine ev_aload_n d_Addresses_putName_21 rfl rfl ?_
        refine ev_bipush (v := 32) d_Addresses_putName_22 (by decide) ?_
        refine ev_Vn (ci := 3) [.int 32] [] ca_Addresses_putName_125 d_Addresses_putName_24 rfl ((S.2 t htx)) rfl (Nat.le_of_ble_eq_true rfl) (y_put hT S htx H (by omega) 32) (fun h1 z => ?_)
        obtain ⟨σ2, S2, r2, p2, H2⟩ := z
        exact a27 (cur ++ [32]) h1 σ2 S2 (aO_go S r2 O) (acW_same A (fun τ hτ => p2 τ (hac τ hτ))) H2 (by rw [List.length_append, List.length_singleton]; omega) r2 p2 (by rw [ad_nT, h46, List.append_assoc]; rfl)
theorem z_putName (hT : (gl_t G)[0]? = some (cI, .int)) {h : hp_T} {σ : rwT} (S : tS cI X h σ) (O : aO X h) {W g : Wds} (A : acW σ W g) {t : Nat} (ht : t ∈ [19, 26]) {n : Nat} (hn : n ≤ g.length) {Ls : List (List Int32)} (H : txH σ t Ls []) (hb : Ls.flatten.length + eW (g.take n) < 4096) : ct_E G m_Addresses_putName [.ref (X + 18), .ref (X + t), .int (nI n)] h (cn (tP cI X h σ [t + 1] (fun σ' => txH σ' t Ls (ad_nT false (g.take n))))) := by
  refine ct_of (ws' := tb_all) rfl rfl (Nat.le_of_ble_eq_true rfl) ?_
  refine ev_iconst (v := 0) d_Addresses_putName_0 (by decide) ?_
  refine ev_istore_n d_Addresses_putName_1 rfl (by decide) ?_
  exact lz_putName hT ht hn n 0 [] h σ (by omega) S O A H hb
theorem lz_putWords (hT : (gl_t G)[0]? = some (cI, .int)) {f : Int32} {W g : Wds} {n : Nat} (hn : n ≤ g.length) {Ls : List (List Int32)} (hLs : Ls.length + 1 < 4096) : ∀ (d i : Nat) (cur : List Int32) (h : hp_T) (σ : rwT), n ≤ i + d → i ≤ n + 1 → tS cI X h σ → aO X h → acW σ W g → txH σ 19 Ls cur → Ls.flatten.length + cur.length + eW (ad_sl g i n) < 4096 → ev_E G m_Addresses_putWords 2 [(0, .ref (X + 18)), (1, .int f), (2, .int (nI n)), (3, .int (nI i))] [] h (cn (tP cI X h σ [20, 22] (fun σ' => txH σ' 19 (Ls ++ [cur ++ ad_wT (ad_sl g i n)]) []))) := by
  have m11 : (11 : Nat) ∈ txs := by decide
  have m19 : (19 : Nat) ∈ txs := by decide
  have m31 : (31 : Nat) ∈ rws := by decide
  have hac := txs_ac 19 (by decide)
  have out : ∀ (i : Nat) (cur : List Int32) (h : hp_T) (σ : rwT), n ≤ i → i ≤ n + 1 → tS cI X h σ → aO X h → acW σ W g → txH σ 19 Ls cur → ev_E G m_Addresses_putWords 2 [(0, .ref (X + 18)), (1, .int f), (2, .int (nI n)), (3, .int (nI i))] [] h (cn (tP cI X h σ [20, 22] (fun σ' => txH σ' 19 (Ls ++ [cur ++ ad_wT (ad_sl g i n)]) []))) := by
    intro i cur h σ h1 h2 S O A H
    have hgl := ac_le S A
    obtain ⟨⟨a, b, c, hA⟩, r, hW⟩ := id O
    rw [sl_nil h1, show ad_wT [] = [] from rfl, List.append_nil]
    refine ev_iload_n d_Addresses_putWords_2 rfl rfl ?_
    refine ev_iload_n d_Addresses_putWords_3 rfl rfl ?_
    refine ev_icmp_ge (tgt := 79) d_Addresses_putWords_4 (by decide) (fun _ => ?_) (fun z => absurd (nI_le (by omega) (by omega)) z)
    refine ev_aload_n d_Addresses_putWords_79 rfl rfl ?_
    refine ev_get (fa_Addresses_18 rfl rfl) d_Addresses_putWords_80 hA rfl ?_
    refine ev_Vn (ci := 3) [] [] ca_Addresses_putWords_94 d_Addresses_putWords_83 rfl ((S.2 19 m19)) rfl (Nat.le_of_ble_eq_true rfl) (y_close hT S m19 H hLs) (fun h1 z => ?_)
    obtain ⟨σ1, S1, r1, p1, H1⟩ := z
    refine ev_vret d_Addresses_putWords_86 rfl ?_
    exact ⟨rfl, σ1, S1, r1, sub1 p1 (by decide), H1⟩
  intro d
  induction d with
  | zero =>
    intro i cur h σ hd hi S O A H hb
    exact out i cur h σ (by omega) hi S O A H
  | succ d ih =>
    intro i cur h σ hd hi S O A H hb
    rcases Nat.lt_or_ge i n with hin | hin
    · have hgl := ac_le S A
      obtain ⟨⟨a, b, c, hA⟩, r, hW⟩ := id O
      have qi : g[i]? = some g[i] := List.getElem?_eq_getElem (by omega)
      generalize g[i] = w at qi
      have hwf := ac_wf A qi
      rw [sl_dr hin hn qi] at hb ⊢
      rw [eW] at hb
      refine ev_iload_n d_Addresses_putWords_2 rfl rfl ?_
      refine ev_iload_n d_Addresses_putWords_3 rfl rfl ?_
      refine ev_icmp_ge (tgt := 79) d_Addresses_putWords_4 (by decide) (fun z => absurd z (nI_ge (by omega) (by omega))) (fun _ => ?_)
      have a73 : ∀ (l : Int32) (cur1 : List Int32) (h2 : hp_T) (σ2 : rwT), tS cI X h2 σ2 → aO X h2 → acW σ2 W g → txH σ2 19 Ls cur1 → Ls.flatten.length + cur1.length + eW (ad_sl g (i + 1) n) < 4096 → rwR X h σ h2 σ2 → (∀ τ, τ ∉ [20, 22] → (σ2 τ).2.2 = (σ τ).2.2) → cur1 ++ ad_wT (ad_sl g (i + 1) n) = cur ++ ad_wT (w :: ad_sl g (i + 1) n) → ev_E G m_Addresses_putWords 73 [(0, .ref (X + 18)), (1, .int f), (2, .int (nI n)), (3, .int (nI i)), (4, .int l)] [] h2 (cn (tP cI X h σ [20, 22] (fun σ' => txH σ' 19 (Ls ++ [cur ++ ad_wT (w :: ad_sl g (i + 1) n)]) []))) := by
        intro l cur1 h2 σ2 S2 O2 A2 H2 hb2 r2 p2 ee
        refine ev_iinc d_Addresses_putWords_73 rfl (by decide) ?_
        refine ev_goto (tgt := 2) d_Addresses_putWords_76 (by decide) ?_
        refine ev_as [(0, .ref (X + 18)), (1, .int f), (2, .int (nI n)), (3, .int (nI (i + 1)))] ⟨rfl, rfl, rfl, ?_, trivial⟩ (ev_to (ih (i + 1) cur1 h2 σ2 (by omega) (by omega) S2 O2 A2 H2 hb2) ?_)
        · show some (Value.int (nI i + Int32.ofInt 1)) = _
          rw [show nI i + Int32.ofInt 1 = nI (i + 1) from nI_1 i]
        · rintro o h' ⟨rfl, σ3, q1, q2, q3, q4⟩
          rw [ee] at q4
          exact ⟨rfl, σ3, q1, rwR_tr r2 q2, fun τ hτ => (q3 τ hτ).trans (p2 τ hτ), q4⟩
      have a37 : ∀ (l : Int32) (cur1 : List Int32) (h2 : hp_T) (σ2 : rwT), (l = 0 ↔ ¬ w.1 = 2) → tS cI X h2 σ2 → aO X h2 → acW σ2 W g → txH σ2 19 Ls cur1 → Ls.flatten.length + cur1.length + w.2.2.length + (if w.1 = 2 then 1 else 0) + eW (ad_sl g (i + 1) n) < 4096 → rwR X h σ h2 σ2 → (∀ τ, τ ∉ [20, 22] → (σ2 τ).2.2 = (σ τ).2.2) → cur1 ++ (w.2.2 ++ ((if w.1 = 2 then [93] else []) ++ ad_wT (ad_sl g (i + 1) n))) = cur ++ ad_wT (w :: ad_sl g (i + 1) n) → ev_E G m_Addresses_putWords 37 [(0, .ref (X + 18)), (1, .int f), (2, .int (nI n)), (3, .int (nI i)), (4, .int l)] [] h2 (cn (tP cI X h σ [20, 22] (fun σ' => txH σ' 19 (Ls ++ [cur ++ ad_wT (w :: ad_sl g (i + 1) n)]) []))) := by
        intro l cur1 h2 σ2 hl S2 O2 A2 H2 hb2 r2 p2 ee
        obtain ⟨⟨a, b, c, hA2⟩, r, hW2⟩ := id O2
        obtain ⟨j, j1, j2⟩ := ga_at A2.2.1 (show i < 2 ^ 31 by omega) qi
        have hlw := A2.2.2.2
        refine ev_aload_n d_Addresses_putWords_37 rfl rfl ?_
        refine ev_get (fa_Addresses_18 rfl rfl) d_Addresses_putWords_38 hA2 rfl ?_
        refine ev_aload_n d_Addresses_putWords_41 rfl rfl ?_
        refine ev_get (fa_Addresses_9 rfl rfl) d_Addresses_putWords_42 hA2 rfl ?_
        refine ev_Vv (ci := 4) [] [.ref (X + 19)] ca_Addresses_putWords_115 d_Addresses_putWords_45 rfl (hW2) rfl (Nat.le_of_ble_eq_true rfl) (w_wtexts hW2) ?_
        refine ev_aload_n d_Addresses_putWords_48 rfl rfl ?_
        refine ev_get (fa_Addresses_32 rfl rfl) d_Addresses_putWords_49 hA2 rfl ?_
        refine ev_iload_n d_Addresses_putWords_52 rfl rfl ?_
        refine ev_Vv (ci := 1) [.int (nI i)] [.ref (X + 11), .ref (X + 19)] ca_Addresses_putWords_49 d_Addresses_putWords_53 rfl ((S2.1.1 _ m31).1.1) rfl (Nat.le_of_ble_eq_true rfl) (w_get hT S2.1 m31 (nI i)) ?_
        rw [j1]
        refine ev_Vn (ci := 3) [.ref (X + 11), .int (nI j)] [] ca_Addresses_putWords_118 d_Addresses_putWords_56 rfl ((S2.2 19 m19)) rfl (Nat.le_of_ble_eq_true rfl) (y_putText hT S2 m19 m11 (by decide) H2 A2.1.1 (tx_atN j2) (by rw [List.length_map, List.length_map]; omega) (by have := hlw.2; unfold wdB at this; omega) (by omega)) (fun h1 z => ?_)
        obtain ⟨σ3, S3, r3, p3, H3⟩ := z
        have O3 := aO_go S2 r3 O2
        obtain ⟨⟨a, b, c, hA3⟩, r, hW3⟩ := id O3
        have q3 : ∀ τ, τ ∉ [20, 22] → (σ3 τ).2.2 = (σ τ).2.2 := fun τ hτ => (sub1 p3 (by decide) τ hτ).trans (p2 τ hτ)
        have A3 := acW_same A2 (fun τ hτ => p3 τ (hac τ hτ))
        refine ev_iload d_Addresses_putWords_59 rfl ?_
        by_cases h2 : w.1 = 2
        · have hl0 : ¬ l = 0 := fun z => (hl.mp z) h2
          rw [if_pos h2] at hb2 ee
          refine ev_if_eq (tgt := 73) d_Addresses_putWords_61 (by decide) (fun z => absurd z hl0) (fun _ => ?_)
          refine ev_aload_n d_Addresses_putWords_64 rfl rfl ?_
          refine ev_get (fa_Addresses_18 rfl rfl) d_Addresses_putWords_65 hA3 rfl ?_
          refine ev_bipush (v := 93) d_Addresses_putWords_68 (by decide) ?_
          refine ev_Vn (ci := 3) [.int 93] [] ca_Addresses_putWords_125 d_Addresses_putWords_70 rfl ((S3.2 19 m19)) rfl (Nat.le_of_ble_eq_true rfl) (y_put hT S3 m19 H3 (by rw [List.length_append]; omega) 93) (fun h1 z => ?_)
          obtain ⟨σ4, S4, r4, p4, H4⟩ := z
          refine a73 l _ _ σ4 S4 (aO_go S3 r4 O3) (acW_same A3 (fun τ hτ => p4 τ (hac τ hτ))) H4 (by simp only [List.length_append, List.length_singleton]; omega) (rwR_tr (rwR_tr r2 r3) r4) (fun τ hτ => (sub1 p4 (by decide) τ hτ).trans (q3 τ hτ)) ?_
          rw [List.append_assoc, List.append_assoc]
          exact ee
        · rw [if_neg h2] at hb2 ee
          refine ev_if_eq (tgt := 73) d_Addresses_putWords_61 (by decide) (fun _ => ?_) (fun z => absurd (hl.mpr h2) z)
          refine a73 l _ _ σ3 S3 O3 A3 H3 (by rw [List.length_append]; omega) (rwR_tr r2 r3) q3 ?_
          rw [List.append_assoc]
          exact ee
      refine ev_aload_n d_Addresses_putWords_7 rfl rfl ?_
      refine ev_iload_n d_Addresses_putWords_8 rfl rfl ?_
      refine ev_Vv (ci := 5) [.int (nI i)] [] ca_Addresses_putWords_100 d_Addresses_putWords_9 rfl (hA) rfl (Nat.le_of_ble_eq_true rfl) (z_kindAt hT S O A (nI i)) ?_
      rw [gk_at (by omega) qi]
      refine ev_iconst (v := 3) d_Addresses_putWords_12 (by decide) ?_
      by_cases h2 : w.1 = 2
      · have hew : ewt w = w.2.2.length + 2 := by unfold ewt; rw [if_pos h2]
        refine ev_icmp_ne (tgt := 20) d_Addresses_putWords_13 (by decide) (fun z => absurd ((cK_3 hwf).mpr h2) z) (fun _ => ?_)
        refine ev_iconst (v := 1) d_Addresses_putWords_16 (by decide) ?_
        refine ev_goto (tgt := 21) d_Addresses_putWords_17 (by decide) ?_
        refine ev_istore d_Addresses_putWords_21 (by decide) ?_
        refine ev_iload d_Addresses_putWords_23 rfl ?_
        refine ev_if_eq (tgt := 37) d_Addresses_putWords_25 (by decide) (fun z => absurd z (by decide)) (fun _ => ?_)
        refine ev_aload_n d_Addresses_putWords_28 rfl rfl ?_
        refine ev_get (fa_Addresses_18 rfl rfl) d_Addresses_putWords_29 hA rfl ?_
        refine ev_bipush (v := 91) d_Addresses_putWords_32 (by decide) ?_
        refine ev_Vn (ci := 3) [.int 91] [] ca_Addresses_putWords_125 d_Addresses_putWords_34 rfl ((S.2 19 m19)) rfl (Nat.le_of_ble_eq_true rfl) (y_put hT S m19 H (by omega) 91) (fun h1 z => ?_)
        obtain ⟨σ2, S2, r2, p2, H2⟩ := z
        refine a37 1 _ h1 σ2 ⟨fun z => absurd z (by decide), fun z => absurd h2 z⟩ S2 (aO_go S r2 O) (acW_same A (fun τ hτ => p2 τ (hac τ hτ))) H2 (by rw [if_pos h2, List.length_append, List.length_singleton]; omega) r2 (sub1 p2 (by decide)) ?_
        rw [ad_wT, if_pos h2, if_pos h2, List.append_assoc]
      · have hew : ewt w = w.2.2.length + 1 := by unfold ewt; rw [if_neg h2]
        refine ev_icmp_ne (tgt := 20) d_Addresses_putWords_13 (by decide) (fun _ => ?_) (fun z => absurd ((cK_3 hwf).mp z) h2)
        refine ev_iconst (v := 0) d_Addresses_putWords_20 (by decide) ?_
        refine ev_istore d_Addresses_putWords_21 (by decide) ?_
        refine ev_iload d_Addresses_putWords_23 rfl ?_
        refine ev_if_eq (tgt := 37) d_Addresses_putWords_25 (by decide) (fun _ => ?_) (fun z => absurd rfl z)
        refine a37 0 cur h σ ⟨fun _ => h2, fun _ => rfl⟩ S O A H (by rw [if_neg h2]; omega) rwR_rf (fun _ _ => rfl) ?_
        rw [ad_wT, if_neg h2, if_neg h2]
        rfl
    · exact out i cur h σ hin hi S O A H
theorem z_putWords (hT : (gl_t G)[0]? = some (cI, .int)) {h : hp_T} {σ : rwT} (S : tS cI X h σ) (O : aO X h) {W g : Wds} (A : acW σ W g) {f n : Nat} (hf : f ≤ n + 1) (hn : n ≤ g.length) {Ls : List (List Int32)} (hLs : Ls.length + 1 < 4096) (H : txH σ 19 Ls []) (hb : Ls.flatten.length + eW (ad_sl g f n) < 4096) : ct_E G m_Addresses_putWords [.ref (X + 18), .int (nI f), .int (nI n)] h (cn (tP cI X h σ [20, 22] (fun σ' => txH σ' 19 (Ls ++ [ad_wT (ad_sl g f n)]) []))) := by
  refine ct_of (ws' := tb_all) rfl rfl (Nat.le_of_ble_eq_true rfl) ?_
  refine ev_iload_n d_Addresses_putWords_0 rfl rfl ?_
  refine ev_istore_n d_Addresses_putWords_1 rfl (by decide) ?_
  exact lz_putWords hT hn hLs n f [] h σ (by omega) hf S O A H hb
end ACL2
