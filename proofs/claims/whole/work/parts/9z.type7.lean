theorem nIs {w : Int32 × Int32 × List Int32} (h : ¬ w.1 = 3) : wIs w 59 = false := by simp [wIs, h]
/-- how much the parameters may hold -/
theorem cQ_b : ∀ (n : Nat) (N : Wds), N.length ≤ n → (cQ N).length ≤ N.length ∧ ((cQ N).map (fun q => q.1.map sp_small)).flatten.length ≤ wdB (N.map wm) ∧ ((cQ N).map (fun q => q.2.2.2)).flatten.length ≤ wdB (N.map wm)
  | 0, N, h => by
    have : N = [] := List.length_eq_zero_iff.mp (by omega)
    subst this
    simp [cQ, wdB]
  | n + 1, [], _ => by simp [cQ, wdB]
  | n + 1, w :: t, h => by
    have hcons : ∀ (x : Int32 × Int32 × List Int32) (l : Wds), wdB ((x :: l).map wm) = x.2.2.length + wdB (l.map wm) := fun x l => by simp [wdB, wm]
    simp only [List.length_cons] at h
    cases h59 : wIs w 59 with
    | false =>
      obtain ⟨a, b, c⟩ := cQ_b n t (by omega)
      rw [hcons]
      simp only [cQ, h59, cond_false, List.nil_append, List.length_cons]
      exact ⟨by omega, by omega, by omega⟩
    | true =>
      cases hp : prmN t with
      | none =>
        obtain ⟨a, b, c⟩ := cQ_b n t (by omega)
        rw [hcons]
        simp only [cQ, h59, cond_true, hp, Option.toList_none, List.nil_append, List.length_cons]
        exact ⟨by omega, by omega, by omega⟩
      | some q =>
        match t, hp, h with
        | [], hp, _ => simp [prmN] at hp
        | [_], hp, _ => simp [prmN] at hp
        | [_, _], hp, _ => simp [prmN] at hp
        | wa :: ws :: wv :: u, hp, h =>
          simp only [List.length_cons] at h
          have hp' : (wa.1 = 4 ∧ wIs ws 61 = true ∧ (wv.1 = 4 ∨ wv.1 = 1) ∧ ¬ n2N wa.2.2 = 0) ∧ q = (wa.2.2.take (n2N wa.2.2), piN wa.2.2, cdN wa.2.2, wv.2.2) := by
            simp only [prmN, List.getElem?_cons_zero, List.getElem?_cons_succ] at hp
            split at hp
            · rename_i hc
              cases hp
              exact ⟨hc, rfl⟩
            · cases hp
          obtain ⟨⟨c1, c2, c3, c4⟩, rfl⟩ := hp'
          have ea : wIs wa 59 = false := nIs (by rw [c1]; decide)
          have es : wIs ws 59 = false := by
            simp only [wIs, decide_eq_true_eq] at c2
            simp [wIs, c2.2]
          have ev : wIs wv 59 = false := nIs (by rcases c3 with z | z <;> (rw [z]; decide))
          obtain ⟨a, b, c⟩ := cQ_b n u (by omega)
          rw [hcons, hcons, hcons, hcons]
          simp only [cQ, h59, ea, es, ev, cond_true, cond_false, hp, Option.toList_some, List.nil_append, List.singleton_append, List.length_cons, List.map_cons, List.flatten_cons, List.length_append, List.length_map, List.length_take]
          refine ⟨by omega, by omega, by omega⟩
theorem qB_pre {Q Q2 : List Prm} {b : Nat} (h : qB (Q ++ Q2) b) : qB Q b := by
  obtain ⟨h1, h2, h3⟩ := h
  simp only [List.length_append, List.map_append, List.flatten_append] at h1 h2 h3
  exact ⟨by omega, by omega, by omega⟩
section TYP7
variable {G : gl_G} {cI : ClassId} {X : Nat}
theorem wdH_ct {σ σ' : rwT} {Ws : List (Int32 × List Int32)} {op : List Int32} (H : wdH σ Ws op) (h : ∀ τ, τ ∉ ctR → (σ' τ).2.2 = (σ τ).2.2) : wdH σ' Ws op := ⟨txH_same H.1 (h 12 (by decide)) (h 14 (by decide)), (h 16 (by decide)).trans H.2⟩
theorem z_takePart (hNm : gl_nm G) (hT : (gl_t G)[0]? = some (cI, .int)) {h : hp_T} {σ : rwT} (S : tS cI X h σ) (O : cO X h) {N : Wds} (hNl : N.length ≤ 1501) (hW : wdB (N.map wm) ≤ 1501) (W : wdH σ (N.map wm) []) {Ls : List (List Int32)} (hL1 : Ls.length < 100) (hL2 : Ls.flatten.length ≤ 1501) (H : txH σ 41 Ls []) {k : Nat} {w : Int32 × Int32 × List Int32} (hk : N[k]? = some w) : ct_E G m_ContentType_takePart [.ref (X + 40), .int (nI k)] h (cn (tP cI X h σ [42, 44] (fun σ' => txH σ' 41 (Ls ++ [w.2.2.map sp_small]) []))) := by
  have m11 : (11 : Nat) ∈ txs := by decide
  have m41 : (41 : Nat) ∈ txs := by decide
  have ta := tx_atN hk
  have hLl : ((N.map wm).map (fun w => w.2)).length < 2 ^ 30 := by rw [List.length_map, List.length_map]; omega
  have hLb : ((N.map wm).map (fun w => w.2)).flatten.length ≤ 1501 := hW
  have hal : w.2.2.length ≤ 1501 := by
    obtain ⟨e1, -⟩ := flat_take ta
    have := congrArg List.length e1
    simp only [List.length_append] at this
    omega
  obtain ⟨hA, r, hWd⟩ := id O
  refine ct_of (ws' := tb_all) rfl rfl (Nat.le_of_ble_eq_true rfl) ?_
  refine ev_aload_n d_ContentType_takePart_0 rfl rfl ?_
  refine ev_get (fa_ContentType_18 rfl rfl) d_ContentType_takePart_1 hA rfl ?_
  refine ev_aload_n d_ContentType_takePart_4 rfl rfl ?_
  refine ev_get (fa_ContentType_9 rfl rfl) d_ContentType_takePart_5 hA rfl ?_
  refine ev_Vv (ci := 4) [] [.ref (X + 41)] ca_ContentType_takePart_68 d_ContentType_takePart_8 rfl (hWd) rfl (Nat.le_of_ble_eq_true rfl) (w_wtexts hWd) ?_
  refine ev_iload_n d_ContentType_takePart_11 rfl rfl ?_
  refine ev_aload_n d_ContentType_takePart_12 rfl rfl ?_
  refine ev_get (fa_ContentType_9 rfl rfl) d_ContentType_takePart_13 hA rfl ?_
  refine ev_Vv (ci := 4) [] [.int (nI k), .ref (X + 11), .ref (X + 41)] ca_ContentType_takePart_68 d_ContentType_takePart_16 rfl (hWd) rfl (Nat.le_of_ble_eq_true rfl) (w_wtexts hWd) ?_
  refine ev_iload_n d_ContentType_takePart_19 rfl rfl ?_
  refine ev_Vv (ci := 3) [.int (nI k)] [.int (nI k), .ref (X + 11), .ref (X + 41)] ca_ContentType_takePart_72 d_ContentType_takePart_20 rfl ((S.2 11 m11)) rfl (Nat.le_of_ble_eq_true rfl) (w_sizeOf hT S m11 (nI k)) ?_
  rw [show szO (σ (11 + 3)).2.2 (nI k) = nI w.2.2.length from by rw [show (σ (11 + 3)).2.2 = _ from W.1.2]; exact szT hLl ta]
  refine ev_Vn (ci := 3) [.ref (X + 11), .int (nI k), .int (nI w.2.2.length)] [] ca_ContentType_takePart_75 d_ContentType_takePart_23 rfl ((S.2 41 m41)) rfl (Nat.le_of_ble_eq_true rfl) (y_putSmall hNm hT S m41 m11 (by decide) H W.1 ta hLl (by omega) (Nat.le_refl _) (by rw [List.length_nil]; omega)) (fun h1 z => ?_)
  obtain ⟨σ1, S1, r1, p1, H1⟩ := z
  have O1 := cO_go S r1 O
  rw [List.take_length, List.nil_append] at H1
  refine ev_aload_n d_ContentType_takePart_26 rfl rfl ?_
  refine ev_get (fa_ContentType_18 rfl rfl) d_ContentType_takePart_27 O1.1 rfl ?_
  refine ev_Vn (ci := 3) [] [] ca_ContentType_takePart_79 d_ContentType_takePart_30 rfl ((S1.2 41 m41)) rfl (Nat.le_of_ble_eq_true rfl) (y_close hT S1 m41 H1 (by omega)) (fun h1 z => ?_)
  obtain ⟨σ2, S2, r2, p2, H2⟩ := z
  refine ev_vret d_ContentType_takePart_33 rfl ?_
  exact ⟨rfl, σ2, S2, rwR_tr r1 r2, fun τ hτ => (p2 τ (fun z => hτ (by simp at z; simp [z]))).trans (p1 τ (fun z => hτ (by simp at z; simp [z]))), H2⟩
theorem lz_readWords (hNm : gl_nm G) (hT : (gl_t G)[0]? = some (cI, .int)) {N : Wds} (hN : ∀ w ∈ N, wfW w) (hNl : N.length ≤ 1501) (hW : wdB (N.map wm) ≤ 1501) {Ls : List (List Int32)} : ∀ (d i : Nat) (Q : List Prm) (h : hp_T) (σ : rwT), N.length ≤ i + d → i ≤ N.length + 3 → qB (Q ++ cQ (N.drop i)) 1501 → tS cI X h σ → cO X h → wdH σ (N.map wm) [] → ctQ σ Q → txH σ 41 Ls [] → ev_E G m_ContentType_readWords 97 [(0, .ref (X + 40)), (1, .int (nI i))] [] h (cr (fun y h' => y = .int 1 ∧ tP cI X h σ ctR (fun σ' => ctQ σ' (Q ++ cQ (N.drop i)) ∧ txH σ' 41 Ls []) h')) := by
  have m16 : (16 : Nat) ∈ rws := by decide
  have key : ∀ (i : Nat) (Q : List Prm) (h : hp_T) (σ : rwT), N.length ≤ i → i ≤ N.length + 3 → tS cI X h σ → cO X h → wdH σ (N.map wm) [] → ctQ σ Q → txH σ 41 Ls [] → ev_E G m_ContentType_readWords 97 [(0, .ref (X + 40)), (1, .int (nI i))] [] h (cr (fun y h' => y = .int 1 ∧ tP cI X h σ ctR (fun σ' => ctQ σ' (Q ++ cQ (N.drop i)) ∧ txH σ' 41 Ls []) h')) := by
    intro i Q h σ hge hi S O W HQ HP
    obtain ⟨hA, r, hWd⟩ := id O
    have e16 : (σ 16).2.2.length = N.length := by rw [W.2, List.length_map, List.length_map]
    refine ev_iload_n d_ContentType_readWords_97 rfl rfl ?_
    refine ev_aload_n d_ContentType_readWords_98 rfl rfl ?_
    refine ev_get (fa_ContentType_9 rfl rfl) d_ContentType_readWords_99 hA rfl ?_
    refine ev_Vv (ci := 4) [] [.int (nI i)] ca_ContentType_readWords_48 d_ContentType_readWords_102 rfl (hWd) rfl (Nat.le_of_ble_eq_true rfl) (w_wkinds hWd) ?_
    refine ev_Vv (ci := 1) [] [.int (nI i)] ca_ContentType_readWords_61 d_ContentType_readWords_105 rfl ((S.1.1 _ m16).1.1) rfl (Nat.le_of_ble_eq_true rfl) (w_size S.1 m16) ?_
    rw [e16]
    refine ev_icmp_ge (tgt := 140) d_ContentType_readWords_108 (by decide) (fun _ => ?_) (fun z => absurd (nI_le (by omega) (by omega)) z)
    refine ev_iconst (v := 1) d_ContentType_readWords_140 (by decide) ?_
    refine ev_zret d_ContentType_readWords_141 rfl rfl ?_
    refine ⟨_, rfl, rfl, σ, S, rwR_rf, fun _ _ => rfl, ?_, HP⟩
    rw [List.drop_eq_nil_of_le hge, cQ, List.append_nil]
    exact HQ
  intro d
  induction d with
  | zero =>
    intro i Q h σ hd hi hq S O W HQ HP
    exact key i Q h σ (by omega) hi S O W HQ HP
  | succ d ih =>
    intro i Q h σ hd hi hq S O W HQ HP
    rcases Nat.lt_or_ge i N.length with hlt | hge
    · obtain ⟨hA, r, hWd⟩ := id O
      have e16 : (σ 16).2.2.length = N.length := by rw [W.2, List.length_map, List.length_map]
      have hw : N[i]? = some N[i] := List.getElem?_eq_getElem hlt
      have ed : N.drop i = N[i] :: N.drop (i + 1) := (List.getElem_cons_drop hlt).symm
      have kk := kd_at W (by omega) i (by omega)
      rw [hw] at kk
      simp only at kk
      have k59 := cK_s (c := 59) (hN N[i] (List.getElem_mem hlt)) (by decide)
      rw [ed, cQ] at hq ⊢
      have on : ∀ (Q2 : List Prm) (h2 : hp_T) (σ2 : rwT), (bif wIs N[i] 59 then (prmN (N.drop (i + 1))).toList else []) = Q2 → tS cI X h2 σ2 → cO X h2 → rwR X h σ h2 σ2 → (∀ τ, τ ∉ ctR → (σ2 τ).2.2 = (σ τ).2.2) → ctQ σ2 (Q ++ Q2) → txH σ2 41 Ls [] → ev_E G m_ContentType_readWords 134 [(0, .ref (X + 40)), (1, .int (nI i))] [] h2 (cr (fun y h' => y = .int 1 ∧ tP cI X h σ ctR (fun σ' => ctQ σ' (Q ++ ((bif wIs N[i] 59 then (prmN (N.drop (i + 1))).toList else []) ++ cQ (N.drop (i + 1)))) ∧ txH σ' 41 Ls []) h')) := by
        intro Q2 h2 σ2 e2 S2 O2 r2 p2 HQ2 HP2
        rw [e2] at hq ⊢
        rw [← List.append_assoc] at hq ⊢
        refine ev_iinc d_ContentType_readWords_134 rfl (by decide) ?_
        refine ev_goto (tgt := 97) d_ContentType_readWords_137 (by decide) ?_
        rw [show nI i + Int32.ofInt 1 = nI (i + 1) from nI_1 i]
        refine ev_to (ih (i + 1) (Q ++ Q2) h2 σ2 (by omega) (by omega) hq S2 O2 (wdH_ct W p2) HQ2 HP2) ?_
        rintro o h' ⟨x, rfl, rfl, σ3, g1, g2, g3, g4⟩
        exact ⟨_, rfl, rfl, σ3, g1, rwR_tr r2 g2, fun τ hτ => (g3 τ hτ).trans (p2 τ hτ), g4⟩
      refine ev_iload_n d_ContentType_readWords_97 rfl rfl ?_
      refine ev_aload_n d_ContentType_readWords_98 rfl rfl ?_
      refine ev_get (fa_ContentType_9 rfl rfl) d_ContentType_readWords_99 hA rfl ?_
      refine ev_Vv (ci := 4) [] [.int (nI i)] ca_ContentType_readWords_48 d_ContentType_readWords_102 rfl (hWd) rfl (Nat.le_of_ble_eq_true rfl) (w_wkinds hWd) ?_
      refine ev_Vv (ci := 1) [] [.int (nI i)] ca_ContentType_readWords_61 d_ContentType_readWords_105 rfl ((S.1.1 _ m16).1.1) rfl (Nat.le_of_ble_eq_true rfl) (w_size S.1 m16) ?_
      rw [e16]
      refine ev_icmp_ge (tgt := 140) d_ContentType_readWords_108 (by decide) (fun z => absurd z (nI_ge (by omega) (by omega))) (fun _ => ?_)
      refine ev_aload_n d_ContentType_readWords_111 rfl rfl ?_
      refine ev_get (fa_ContentType_9 rfl rfl) d_ContentType_readWords_112 hA rfl ?_
      refine ev_Vv (ci := 4) [] [] ca_ContentType_readWords_48 d_ContentType_readWords_115 rfl (hWd) rfl (Nat.le_of_ble_eq_true rfl) (w_wkinds hWd) ?_
      refine ev_iload_n d_ContentType_readWords_118 rfl rfl ?_
      refine ev_Vv (ci := 1) [.int (nI i)] [] ca_ContentType_readWords_54 d_ContentType_readWords_119 rfl ((S.1.1 _ m16).1.1) rfl (Nat.le_of_ble_eq_true rfl) (w_get hT S.1 m16 (nI i)) ?_
      rw [kk]
      refine ev_bipush (v := 59) d_ContentType_readWords_122 (by decide) ?_
      cases h59 : wIs N[i] 59 with
      | false =>
        rw [h59] at on
        refine ev_icmp_ne (tgt := 134) d_ContentType_readWords_124 (by decide) (fun _ => ?_) (fun z => absurd (k59.mp z) (by rw [h59]; decide))
        exact on [] h σ rfl S O rwR_rf (fun _ _ => rfl) (by rw [List.append_nil]; exact HQ) HP
      | true =>
        rw [h59] at on
        refine ev_icmp_ne (tgt := 134) d_ContentType_readWords_124 (by decide) (fun z => absurd (k59.mpr h59) z) (fun _ => ?_)
        refine ev_aload_n d_ContentType_readWords_127 rfl rfl ?_
        refine ev_iload_n d_ContentType_readWords_128 rfl rfl ?_
        refine ev_iconst (v := 1) d_ContentType_readWords_129 (by decide) ?_
        refine ev_iadd d_ContentType_readWords_130 ?_
        rw [nI_1]
        refine ev_Vn (ci := 8) [.int (nI (i + 1))] [] ca_ContentType_readWords_65 d_ContentType_readWords_131 rfl (hA) rfl (Nat.le_of_ble_eq_true rfl) (z_takeParameter hNm hT S O hN hNl hW W HQ (qB_pre hq) (by omega)) (fun h1 z => ?_)
        obtain ⟨σ1, S1, r1, p1, H1⟩ := z
        exact on _ h1 σ1 rfl S1 (cO_go S r1 O) r1 (subL p1 (by decide)) H1 (txH_same HP (p1 42 (by decide)) (p1 44 (by decide)))
    · exact key i Q h σ hge hi S O W HQ HP
/-- the whole: whether it is a type; its parts and parameters -/
theorem z_readWords (hNm : gl_nm G) (hT : (gl_t G)[0]? = some (cI, .int)) {N : Wds} (hN : ∀ w ∈ N, wfW w) (hNl : N.length ≤ 1501) (hW : wdB (N.map wm) ≤ 1501) {h : hp_T} {σ : rwT} (S : tS cI X h σ) (O : cO X h) (W : wdH σ (N.map wm) []) : ct_E G m_ContentType_readWords [.ref (X + 40)] h (cr (fun y h' => y = .int (bI (tyK N)) ∧ tP cI X h σ ctR (fun σ' => ctQ σ' (bif tyK N then cQ (N.drop 3) else []) ∧ txH σ' 41 (bif tyK N then [((N.map (fun w => w.2.2)).getD 0 []).map sp_small, ((N.map (fun w => w.2.2)).getD 2 []).map sp_small] else []) []) h')) := by
  have m16 : (16 : Nat) ∈ rws := by decide
  have m41 : (41 : Nat) ∈ txs := by decide
  have m46 : (46 : Nat) ∈ txs := by decide
  have m51 : (51 : Nat) ∈ txs := by decide
  have m56 : (56 : Nat) ∈ rws := by decide
  have m58 : (58 : Nat) ∈ rws := by decide
  have hK : tyK N = decide (rg (N.map cK) 0 = 1 ∧ rg (N.map cK) 1 = 47 ∧ rg (N.map cK) 2 = 1) := tyK_cls hN
  have eK : (σ 16).2.2 = N.map cK := by rw [W.2, List.map_map]; rfl
  refine ct_of (ws' := tb_all) rfl rfl (Nat.le_of_ble_eq_true rfl) ?_
  refine ev_aload_n d_ContentType_readWords_0 rfl rfl ?_
  refine ev_get (fa_ContentType_18 rfl rfl) d_ContentType_readWords_1 O.1 rfl ?_
  refine ev_Vn (ci := 3) [] [] ca_ContentType_readWords_41 d_ContentType_readWords_4 rfl ((S.2 41 m41)) rfl (Nat.le_of_ble_eq_true rfl) (y_clear S m41) (fun h1 z => ?_)
  obtain ⟨σ1, S1, r1, p1, H1⟩ := z
  have O1 := cO_go S r1 O
  refine ev_aload_n d_ContentType_readWords_7 rfl rfl ?_
  refine ev_get (fa_ContentType_22 rfl rfl) d_ContentType_readWords_8 O1.1 rfl ?_
  refine ev_Vn (ci := 3) [] [] ca_ContentType_readWords_41 d_ContentType_readWords_11 rfl ((S1.2 46 m46)) rfl (Nat.le_of_ble_eq_true rfl) (y_clear S1 m46) (fun h1 z => ?_)
  obtain ⟨σ2, S2, r2, p2, H2⟩ := z
  have O2 := cO_go S1 r2 O1
  refine ev_aload_n d_ContentType_readWords_14 rfl rfl ?_
  refine ev_get (fa_ContentType_25 rfl rfl) d_ContentType_readWords_15 O2.1 rfl ?_
  refine ev_Vn (ci := 3) [] [] ca_ContentType_readWords_41 d_ContentType_readWords_18 rfl ((S2.2 51 m51)) rfl (Nat.le_of_ble_eq_true rfl) (y_clear S2 m51) (fun h1 z => ?_)
  obtain ⟨σ3, S3, r3, p3, H3⟩ := z
  have O3 := cO_go S2 r3 O2
  refine ev_aload_n d_ContentType_readWords_21 rfl rfl ?_
  refine ev_get (fa_ContentType_31 rfl rfl) d_ContentType_readWords_22 O3.1 rfl ?_
  refine ev_iconst (v := 0) d_ContentType_readWords_25 (by decide) ?_
  refine ev_Vn (ci := 1) [.int 0] [] ca_ContentType_readWords_44 d_ContentType_readWords_26 rfl ((S3.1.1 _ m56).1.1) rfl (Nat.le_of_ble_eq_true rfl) (w_rcut S3 m56 0) (fun h1 z => ?_)
  obtain ⟨σ4, S4, r4, p4, H4⟩ := z
  have O4 := cO_go S3 r4 O3
  refine ev_aload_n d_ContentType_readWords_29 rfl rfl ?_
  refine ev_get (fa_ContentType_35 rfl rfl) d_ContentType_readWords_30 O4.1 rfl ?_
  refine ev_iconst (v := 0) d_ContentType_readWords_33 (by decide) ?_
  refine ev_Vn (ci := 1) [.int 0] [] ca_ContentType_readWords_44 d_ContentType_readWords_34 rfl ((S4.1.1 _ m58).1.1) rfl (Nat.le_of_ble_eq_true rfl) (w_rcut S4 m58 0) (fun h1 z => ?_)
  obtain ⟨σ5, S5, r5, p5, H5⟩ := z
  have O5 := cO_go S4 r5 O4
  have r15 := rwR_tr r1 (rwR_tr r2 (rwR_tr r3 (rwR_tr r4 r5)))
  have p15 : ∀ τ, τ ∉ ctR → (σ5 τ).2.2 = (σ τ).2.2 := fun τ hτ => (sub1 p5 (by decide) τ hτ).trans ((sub1 p4 (by decide) τ hτ).trans ((subL p3 (by decide) τ hτ).trans ((subL p2 (by decide) τ hτ).trans (subL p1 (by decide) τ hτ))))
  have W5 := wdH_ct W p15
  have P5 : txH σ5 41 [] [] := txH_same H1 ((p5 42 (by decide)).trans ((p4 42 (by decide)).trans ((p3 42 (by decide)).trans (p2 42 (by decide))))) ((p5 44 (by decide)).trans ((p4 44 (by decide)).trans ((p3 44 (by decide)).trans (p2 44 (by decide)))))
  have Q5 : ctQ σ5 [] := ⟨txH_same H2 ((p5 47 (by decide)).trans ((p4 47 (by decide)).trans (p3 47 (by decide)))) ((p5 49 (by decide)).trans ((p4 49 (by decide)).trans (p3 49 (by decide)))), txH_same H3 ((p5 52 (by decide)).trans (p4 52 (by decide))) ((p5 54 (by decide)).trans (p4 54 (by decide))), by rw [p5 56 (by decide), H4]; rfl, by rw [H5]; rfl⟩
  obtain ⟨hA, r, hWd⟩ := id O5
  have e16 : (σ5 16).2.2 = N.map cK := (p15 16 (by decide)).trans eK
  have no : ¬ (rg (N.map cK) 0 = 1 ∧ rg (N.map cK) 1 = 47 ∧ rg (N.map cK) 2 = 1) → ev_E G m_ContentType_readWords 83 [(0, .ref (X + 40))] [] h1 (cr (fun y h' => y = .int (bI (tyK N)) ∧ tP cI X h σ ctR (fun σ' => ctQ σ' (bif tyK N then cQ (N.drop 3) else []) ∧ txH σ' 41 (bif tyK N then [((N.map (fun w => w.2.2)).getD 0 []).map sp_small, ((N.map (fun w => w.2.2)).getD 2 []).map sp_small] else []) []) h')) := by
    intro hn
    rw [hK, decide_eq_false hn]
    refine ev_iconst (v := 0) d_ContentType_readWords_83 (by decide) ?_
    refine ev_zret d_ContentType_readWords_84 rfl rfl ?_
    exact ⟨_, rfl, rfl, σ5, S5, r15, p15, Q5, P5⟩
  refine ev_aload_n d_ContentType_readWords_37 rfl rfl ?_
  refine ev_get (fa_ContentType_9 rfl rfl) d_ContentType_readWords_38 hA rfl ?_
  refine ev_Vv (ci := 4) [] [] ca_ContentType_readWords_48 d_ContentType_readWords_41 rfl (hWd) rfl (Nat.le_of_ble_eq_true rfl) (w_wkinds hWd) ?_
  refine ev_iconst (v := 0) d_ContentType_readWords_44 (by decide) ?_
  refine ev_Vv (ci := 1) [.int 0] [] ca_ContentType_readWords_54 d_ContentType_readWords_45 rfl ((S5.1.1 _ m16).1.1) rfl (Nat.le_of_ble_eq_true rfl) (w_get hT S5.1 m16 0) ?_
  rw [e16]
  refine ev_iconst (v := 1) d_ContentType_readWords_48 (by decide) ?_
  by_cases q0 : rg (N.map cK) 0 = 1
  · refine ev_icmp_ne (tgt := 83) d_ContentType_readWords_49 (by decide) (fun z => absurd q0 z) (fun _ => ?_)
    refine ev_aload_n d_ContentType_readWords_52 rfl rfl ?_
    refine ev_get (fa_ContentType_9 rfl rfl) d_ContentType_readWords_53 hA rfl ?_
    refine ev_Vv (ci := 4) [] [] ca_ContentType_readWords_48 d_ContentType_readWords_56 rfl (hWd) rfl (Nat.le_of_ble_eq_true rfl) (w_wkinds hWd) ?_
    refine ev_iconst (v := 1) d_ContentType_readWords_59 (by decide) ?_
    refine ev_Vv (ci := 1) [.int 1] [] ca_ContentType_readWords_54 d_ContentType_readWords_60 rfl ((S5.1.1 _ m16).1.1) rfl (Nat.le_of_ble_eq_true rfl) (w_get hT S5.1 m16 1) ?_
    rw [e16]
    refine ev_bipush (v := 47) d_ContentType_readWords_63 (by decide) ?_
    by_cases q1 : rg (N.map cK) 1 = 47
    · refine ev_icmp_ne (tgt := 83) d_ContentType_readWords_65 (by decide) (fun z => absurd q1 z) (fun _ => ?_)
      refine ev_aload_n d_ContentType_readWords_68 rfl rfl ?_
      refine ev_get (fa_ContentType_9 rfl rfl) d_ContentType_readWords_69 hA rfl ?_
      refine ev_Vv (ci := 4) [] [] ca_ContentType_readWords_48 d_ContentType_readWords_72 rfl (hWd) rfl (Nat.le_of_ble_eq_true rfl) (w_wkinds hWd) ?_
      refine ev_iconst (v := 2) d_ContentType_readWords_75 (by decide) ?_
      refine ev_Vv (ci := 1) [.int 2] [] ca_ContentType_readWords_54 d_ContentType_readWords_76 rfl ((S5.1.1 _ m16).1.1) rfl (Nat.le_of_ble_eq_true rfl) (w_get hT S5.1 m16 2) ?_
      rw [e16]
      refine ev_iconst (v := 1) d_ContentType_readWords_79 (by decide) ?_
      by_cases q2 : rg (N.map cK) 2 = 1
      · refine ev_icmp_eq (tgt := 85) d_ContentType_readWords_80 (by decide) (fun _ => ?_) (fun z => absurd q2 z)
        have eT : tyK N = true := by rw [hK]; exact decide_eq_true ⟨q0, q1, q2⟩
        have hl3 : 2 < N.length := by
          rcases Nat.lt_or_ge 2 N.length with z | z
          · exact z
          · have : rg (N.map cK) 2 = -1 := by
              rw [show (2 : Int32) = nI 2 from rfl, rg_nat (by decide), List.getD_eq_getElem?_getD, List.getElem?_eq_none (by rw [List.length_map]; exact z)]
              rfl
            rw [this] at q2
            exact absurd q2 (by decide)
        have hw0 : N[0]? = some N[0] := List.getElem?_eq_getElem (by omega)
        have hw2 : N[2]? = some N[2] := List.getElem?_eq_getElem hl3
        have g0 : (N.map (fun w => w.2.2)).getD 0 [] = N[0].2.2 := by rw [List.getD_eq_getElem?_getD, List.getElem?_map, hw0]; rfl
        have g2 : (N.map (fun w => w.2.2)).getD 2 [] = N[2].2.2 := by rw [List.getD_eq_getElem?_getD, List.getElem?_map, hw2]; rfl
        have hq3 : qB ([] ++ cQ (N.drop 3)) 1501 := by
          obtain ⟨a, b, c⟩ := cQ_b (N.drop 3).length (N.drop 3) (Nat.le_refl _)
          have hle : wdB ((N.drop 3).map wm) ≤ wdB (N.map wm) := by
            have e := congrArg (fun l => wdB (l.map wm)) (List.take_append_drop 3 N).symm
            simp only [List.map_append] at e
            rw [e, wdB_app]
            omega
          rw [List.length_drop] at a
          rw [List.nil_append]
          exact ⟨by omega, by omega, by omega⟩
        have hb0 : N[0].2.2.length ≤ 1501 := by
          obtain ⟨e1, -⟩ := flat_take (tx_atN hw0)
          have := congrArg List.length e1
          simp only [List.length_append] at this
          unfold wdB at hW
          omega
        rw [eT, g0, g2]
        refine ev_aload_n d_ContentType_readWords_85 rfl rfl ?_
        refine ev_iconst (v := 0) d_ContentType_readWords_86 (by decide) ?_
        refine ev_Vn (ci := 8) [.int (nI 0)] [] ca_ContentType_readWords_58 d_ContentType_readWords_87 rfl (hA) rfl (Nat.le_of_ble_eq_true rfl) (z_takePart hNm hT S5 O5 hNl hW W5 (by decide) (by simp) P5 hw0) (fun h1 z => ?_)
        obtain ⟨σ6, S6, r6, p6, H6⟩ := z
        have O6 := cO_go S5 r6 O5
        have p6' := subL p6 (l := ctR) (by decide)
        refine ev_aload_n d_ContentType_readWords_90 rfl rfl ?_
        refine ev_iconst (v := 2) d_ContentType_readWords_91 (by decide) ?_
        refine ev_Vn (ci := 8) [.int (nI 2)] [] ca_ContentType_readWords_58 d_ContentType_readWords_92 rfl (O6.1) rfl (Nat.le_of_ble_eq_true rfl) (z_takePart hNm hT S6 O6 hNl hW (wdH_ct W5 p6') (by simp) (by simp; omega) H6 hw2) (fun h1 z => ?_)
        obtain ⟨σ7, S7, r7, p7, H7⟩ := z
        have O7 := cO_go S6 r7 O6
        have p7' := subL p7 (l := ctR) (by decide)
        have Q7 : ctQ σ7 [] := ctQ_same Q5 (fun τ hτ => (p7 τ (by revert τ; decide)).trans (p6 τ (by revert τ; decide)))
        refine ev_iconst (v := 3) d_ContentType_readWords_95 (by decide) ?_
        refine ev_istore_n d_ContentType_readWords_96 rfl (by decide) ?_
        refine ev_as [(0, .ref (X + 40)), (1, .int (nI 3))] ⟨rfl, rfl, trivial⟩ (ev_to (lz_readWords hNm hT hN hNl hW N.length 3 [] _ σ7 (by omega) (by omega) hq3 S7 O7 (wdH_ct (wdH_ct W5 p6') p7') Q7 H7) ?_)
        rintro o h' ⟨x, rfl, rfl, σ8, g1, g2, g3, g4⟩
        exact ⟨_, rfl, rfl, σ8, g1, rwR_tr r15 (rwR_tr r6 (rwR_tr r7 g2)), fun τ hτ => (g3 τ hτ).trans ((p7' τ hτ).trans ((p6' τ hτ).trans (p15 τ hτ))), g4⟩
      · refine ev_icmp_eq (tgt := 85) d_ContentType_readWords_80 (by decide) (fun z => absurd z q2) (fun _ => ?_)
        exact no (fun z => q2 z.2.2)
    · refine ev_icmp_ne (tgt := 83) d_ContentType_readWords_65 (by decide) (fun _ => ?_) (fun z => absurd z q1)
      exact no (fun z => q1 z.2.1)
  · refine ev_icmp_ne (tgt := 83) d_ContentType_readWords_49 (by decide) (fun _ => ?_) (fun z => absurd z q0)
    exact no (fun z => q0 z.1)
end TYP7
