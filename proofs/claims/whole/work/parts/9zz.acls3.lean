/-! the class: addresses, strong: mailboxes and groups -/
def f3 (ms : List adM) : List (List Int32) := ms.flatMap (fun m => [m.1.1, m.1.2.1, m.1.2.2])
theorem f3_snoc (ms : List adM) (m : adM) : f3 (ms ++ [m]) = f3 ms ++ [m.1.1, m.1.2.1, m.1.2.2] := by simp [f3]
theorem f3_len : ∀ ms : List adM, (f3 ms).length = 3 * ms.length
  | [] => rfl
  | m :: t => by
    have ih := f3_len t
    unfold f3 at ih ⊢
    rw [List.flatMap_cons, List.length_append, ih]
    simp only [List.length_cons, List.length_nil]
    omega
theorem nT_len : ∀ (g : Wds) (s : Bool), (ad_nT s g).length ≤ eW g
  | [], s => by cases s <;> exact Nat.le_refl _
  | w :: t, s => by
    have ih := nT_len t true
    have hew : w.2.2.length + 1 ≤ ewt w := by unfold ewt; split <;> omega
    rw [ad_nT, eW, List.length_append, List.length_append]
    cases s && !wIs w 46
    · simp only [cond_false, List.length_nil]; omega
    · simp only [cond_true, List.length_singleton]; omega
theorem wT_len : ∀ g : Wds, (ad_wT g).length ≤ eW g
  | [] => Nat.le_refl _
  | w :: t => by
    have ih := wT_len t
    rw [ad_wT, eW, List.length_append, List.length_append, List.length_append]
    unfold ewt
    by_cases h : w.1 = 2
    · simp only [if_pos h, List.length_singleton]; omega
    · simp only [if_neg h, List.length_nil]; omega
theorem sl_take {g : Wds} {a b m : Nat} (h : a + m ≤ b) (hb : b ≤ g.length) : (ad_sl g a b).take m = ad_sl g a (a + m) := by
  have e := sl_cut (W := g) (a := a) (m := a + m) (b := b) (by omega) h hb
  have hl : (ad_sl g a (a + m)).length = m := by rw [sl_len (by omega)]; omega
  have key : ∀ n, n = (ad_sl g a (a + m)).length → (ad_sl g a b).take n = ad_sl g a (a + m) := fun n hn => by
    rw [e, hn, List.take_left]
  exact key m hl.symm
theorem sl_drop (g : Wds) (a b m : Nat) : (ad_sl g a b).drop m = ad_sl g (a + m) b := by
  unfold ad_sl
  rw [List.drop_drop]
theorem sl_get {g : Wds} {a b m : Nat} (h : a + m < b) : (ad_sl g a b)[m]? = g[a + m]? := by
  unfold ad_sl
  rw [List.getElem?_drop, List.getElem?_take, if_pos h]
theorem rN_le : ∀ (s : Wds) (n : Nat), ad_rN s = some n → n ≤ s.length
  | [], n, h => by cases h
  | w :: t, n, h => by
    rw [ad_rN] at h
    cases h58 : wIs w 58 with
    | true => rw [h58, cond_true] at h; cases h; simp
    | false =>
      rw [h58, cond_false] at h
      cases hq : decide (w.1 = 4) || (wIs w 64 || (wIs w 44 || wIs w 46)) with
      | false => rw [hq] at h; cases h
      | true =>
        rw [hq, cond_true] at h
        cases hn : ad_rN t with
        | none => rw [hn] at h; cases h
        | some m =>
          rw [hn] at h
          have h2 : m + 1 = n := Option.some.inj h
          have := rN_le t m hn
          rw [List.length_cons]
          omega
theorem op_at : ∀ g : Wds, ad_op g < g.length → ∃ w, g[ad_op g]? = some w ∧ wIs w 60 = true
  | [], h => by simp at h
  | w :: t, h => by
    cases hw : wIs w 60 with
    | true => exact ⟨w, by rw [ad_op, hw]; rfl, hw⟩
    | false =>
      rw [ad_op, hw, cond_false, List.length_cons] at h
      obtain ⟨x, h1, h2⟩ := op_at t (by omega)
      exact ⟨x, by rw [ad_op, hw, cond_false, List.getElem?_cons_succ]; exact h1, h2⟩
/-- what the mailbox's three texts may cost -/
theorem mb_len {g : Wds} {cm l0 l1 l2 : List Int32} (h : ad_mb g cm = some (l0, l1, l2)) : l0.length + l1.length + l2.length ≤ cm.length + eW g := by
  have fin : ∀ (tt : List Int32) (fr to : Nat), fr ≤ to → to ≤ g.length → tt.length ≤ cm.length + eW (g.take fr) → ad_fin tt (ad_sl g fr to) = some (l0, l1, l2) → l0.length + l1.length + l2.length ≤ cm.length + eW g := by
    intro tt fr to h1 h2 h3 h4
    unfold ad_fin at h4
    cases hs : ad_spc (ad_sl g fr to) with
    | none => rw [hs] at h4; cases h4
    | some n =>
      rw [hs] at h4
      have h5 : (tt, ad_wT ((ad_sl g fr to).take n), ad_wT ((ad_sl g fr to).drop (n + 1))) = (l0, l1, l2) := Option.some.inj h4
      have e0 : tt = l0 := congrArg (fun x => x.1) h5
      have e1 : ad_wT ((ad_sl g fr to).take n) = l1 := congrArg (fun x => x.2.1) h5
      have e2 : ad_wT ((ad_sl g fr to).drop (n + 1)) = l2 := congrArg (fun x => x.2.2) h5
      have w1 := wT_len ((ad_sl g fr to).take n)
      have w2 := wT_len ((ad_sl g fr to).drop (n + 1))
      rw [e1] at w1
      rw [e2] at w2
      rw [e0] at h3
      have c1 : eW ((ad_sl g fr to).take n) + eW ((ad_sl g fr to).drop n) = eW (ad_sl g fr to) := by rw [← eW_app, List.take_append_drop]
      have c2 : eW ((ad_sl g fr to).drop (n + 1)) ≤ eW ((ad_sl g fr to).drop n) := by
        have := eW_app (((ad_sl g fr to).drop n).take 1) (((ad_sl g fr to).drop n).drop 1)
        rw [List.take_append_drop, List.drop_drop] at this
        omega
      have c3 := eW_sl h1 h2
      have c4 := eW_mono h2 (Nat.le_refl _)
      rw [eW_all] at c4
      omega
  unfold ad_mb at h
  by_cases ho : ad_op g < g.length
  · rw [if_pos ho] at h
    split at h
    · rename_i hq
      have hrn : (ad_rN (ad_sl g (ad_op g + 1) (g.length - 1))).getD 0 ≤ (ad_sl g (ad_op g + 1) (g.length - 1)).length := by
        cases hx : ad_rN (ad_sl g (ad_op g + 1) (g.length - 1)) with
        | none => exact Nat.zero_le _
        | some m => exact rN_le _ m hx
      have hm : ad_op g ≤ g.length - 1 := by omega
      rw [show ad_rt ((g.take (g.length - 1)).drop (ad_op g + 1)) = ad_sl g (ad_op g + 1 + (ad_rN (ad_sl g (ad_op g + 1) (g.length - 1))).getD 0) (g.length - 1) from sl_drop g _ _ _] at h
      by_cases hlt : ad_op g + 1 ≤ g.length - 1
      · rw [sl_len (by omega)] at hrn
        refine fin _ _ (g.length - 1) (by omega) (by omega) ?_ h
        split
        · omega
        · have h1 := nT_len (g.take (ad_op g)) false
          have h2 := eW_mono (g := g) (a := ad_op g) (b := ad_op g + 1 + (ad_rN (ad_sl g (ad_op g + 1) (g.length - 1))).getD 0) (by omega) (by omega)
          omega
      · rw [sl_nil (by omega)] at h
        unfold ad_fin ad_spc at h
        cases h
    · cases h
  · rw [if_neg ho] at h
    have e : ad_sl g 0 g.length = g := by unfold ad_sl; rw [List.take_length]; rfl
    exact fin cm 0 g.length (Nat.zero_le _) (Nat.le_refl _) (by omega) (by rw [e]; exact h)
/-- mailboxes behind what was gathered -/
def mbL (s : adT) (g : Wds) (cm : List Int32) : List adM := match ad_mb g cm with
  | some m => s.1 ++ [(m, s.2.2.2)]
  | none => s.1
/-- what the class keeps of addresses -/
def acS (X : Nat) (h : hp_T) (σ : rwT) (s : adT) (c : Int32) : Prop := h.2.2 (X + 18) = some (.inr (adO X (nI s.2.2.1) s.2.2.2 c)) ∧ txH σ 19 (f3 s.1) [] ∧ txH σ 26 s.2.1 [] ∧ (σ 24).2.2 = s.1.map (fun m => m.2)
section ACL3
variable {G : gl_G} {cI : ClassId} {X : Nat}
theorem z_takeMailbox (hT : (gl_t G)[0]? = some (cI, .int)) {h : hp_T} {σ : rwT} (S : tS cI X h σ) (O : aO X h) {W g : Wds} (A : acW σ W g) {s : adT} {c : Int32} {cm : List Int32} (B : acS X h σ s c) (hc : cmS W c cm) (hb : (f3 s.1).flatten.length + cm.length + eW g < 4096) (hm : 3 * s.1.length + 4 < 4096) : ct_E G m_Addresses_takeMailbox [.ref (X + 18)] h (cr (fun y h' => y = .int (bI (ad_mb g cm).isSome) ∧ tP cI X h σ adR (fun σ' => txH σ' 19 (f3 (mbL s g cm)) [] ∧ txH σ' 26 s.2.1 [] ∧ (σ' 24).2.2 = (mbL s g cm).map (fun m => m.2) ∧ acW σ' W g) h')) := by
  have m11 : (11 : Nat) ∈ txs := by decide
  have m19 : (19 : Nat) ∈ txs := by decide
  have m24 : (24 : Nat) ∈ rws := by decide
  have m31 : (31 : Nat) ∈ rws := by decide
  have hX := S.1.2.2
  have hgl := ac_le S A
  have hlw := A.2.2.2
  obtain ⟨hA, B19, B26, B24⟩ := B
  obtain ⟨-, r, hW⟩ := id O
  have hf3 := f3_len s.1
  refine ct_of (ws' := tb_all) rfl rfl (Nat.le_of_ble_eq_true rfl) ?_
  refine ev_aload_n d_Addresses_takeMailbox_0 rfl rfl ?_
  refine ev_Vv (ci := 5) [] [] ca_Addresses_takeMailbox_97 d_Addresses_takeMailbox_1 rfl (hA) rfl (Nat.le_of_ble_eq_true rfl) (z_firstOpen hT S O A) ?_
  generalize hov : (if ad_op g < g.length then nI (ad_op g) else (-1 : Int32)) = ov
  -- no mailbox
  have nomb : ad_mb g cm = none → cr (fun y h' => y = .int (bI (ad_mb g cm).isSome) ∧ tP cI X h σ adR (fun σ' => txH σ' 19 (f3 (mbL s g cm)) [] ∧ txH σ' 26 s.2.1 [] ∧ (σ' 24).2.2 = (mbL s g cm).map (fun m => m.2) ∧ acW σ' W g) h') (some (.int 0)) h := by
    intro hno
    have e : mbL s g cm = s.1 := by unfold mbL; rw [hno]
    rw [e]
    exact ⟨_, rfl, by rw [hno]; rfl, σ, S, rwR_rf, fun _ _ => rfl, B19, B26, B24, A⟩
  -- the title stands open
  have a119 : ∀ (fr to le : Nat) (tt : List Int32) (h2 : hp_T) (σ2 : rwT), fr ≤ le → le ≤ to → to ≤ g.length → ad_mb g cm = some (tt, ad_wT (ad_sl g fr le), ad_wT (ad_sl g (le + 1) to)) → (f3 s.1).flatten.length + tt.length + eW (ad_sl g fr le) + eW (ad_sl g (le + 1) to) < 4096 → tS cI X h2 σ2 → rwR X h σ h2 σ2 → (∀ τ, τ ∉ [20, 22, 24] → (σ2 τ).2.2 = (σ τ).2.2) → txH σ2 19 (f3 s.1) tt → (σ2 24).2.2 = s.1.map (fun m => m.2) → ev_E G m_Addresses_takeMailbox 119 [(0, .ref (X + 18)), (1, .int ov), (2, .int (nI fr)), (3, .int (nI to)), (4, .int (nI le))] [] h2 (cr (fun y h' => y = .int (bI (ad_mb g cm).isSome) ∧ tP cI X h σ adR (fun σ' => txH σ' 19 (f3 (mbL s g cm)) [] ∧ txH σ' 26 s.2.1 [] ∧ (σ' 24).2.2 = (mbL s g cm).map (fun m => m.2) ∧ acW σ' W g) h')) := by
    intro fr to le tt h2 σ2 o1 o2 o3 hmb hbb S2 r2 p2 H2 K2
    have hA2 := rwR_obj S.1 r2 hA (by omega) (nrow (by decide))
    have O2 := aO_go S r2 O
    refine ev_aload_n d_Addresses_takeMailbox_119 rfl rfl ?_
    refine ev_get (fa_Addresses_18 rfl rfl) d_Addresses_takeMailbox_120 hA2 rfl ?_
    refine ev_Vn (ci := 3) [] [] ca_Addresses_takeMailbox_94 d_Addresses_takeMailbox_123 rfl ((S2.2 19 m19)) rfl (Nat.le_of_ble_eq_true rfl) (y_close hT S2 m19 H2 (by omega)) (fun h1 z => ?_)
    obtain ⟨σ3, S3, r3, p3, H3⟩ := z
    have r23 := rwR_tr r2 r3
    have p23 : ∀ τ, τ ∉ [20, 22, 24] → (σ3 τ).2.2 = (σ τ).2.2 := fun τ hτ => (sub1 p3 (by decide) τ hτ).trans (p2 τ hτ)
    have hA3 := rwR_obj S.1 r23 hA (by omega) (nrow (by decide))
    have A3 := acW_same A (fun τ hτ => p23 τ (by revert τ; decide))
    refine ev_aload_n d_Addresses_takeMailbox_126 rfl rfl ?_
    refine ev_iload_n d_Addresses_takeMailbox_127 rfl rfl ?_
    refine ev_iload d_Addresses_takeMailbox_128 rfl ?_
    refine ev_Vn (ci := 5) [.int (nI fr), .int (nI le)] [] ca_Addresses_takeMailbox_121 d_Addresses_takeMailbox_130 rfl (hA3) rfl (Nat.le_of_ble_eq_true rfl) (z_putWords hT S3 (aO_go S r23 O) A3 (by omega) (by omega) (by rw [List.length_append, List.length_singleton]; omega) H3 (by rw [List.flatten_append, List.length_append]; simp only [List.flatten_cons, List.flatten_nil, List.append_nil]; omega)) (fun h1 z => ?_)
    obtain ⟨σ4, S4, r4, p4, H4⟩ := z
    have r24 := rwR_tr r23 r4
    have p24 : ∀ τ, τ ∉ [20, 22, 24] → (σ4 τ).2.2 = (σ τ).2.2 := fun τ hτ => (subL p4 (by decide) τ hτ).trans (p23 τ hτ)
    have hA4 := rwR_obj S.1 r24 hA (by omega) (nrow (by decide))
    have A4 := acW_same A (fun τ hτ => p24 τ (by revert τ; decide))
    have hwl := wT_len (ad_sl g fr le)
    refine ev_aload_n d_Addresses_takeMailbox_133 rfl rfl ?_
    refine ev_iload d_Addresses_takeMailbox_134 rfl ?_
    refine ev_iconst (v := 1) d_Addresses_takeMailbox_136 (by decide) ?_
    refine ev_iadd d_Addresses_takeMailbox_137 ?_
    rw [nI_1]
    refine ev_iload_n d_Addresses_takeMailbox_138 rfl rfl ?_
    refine ev_Vn (ci := 5) [.int (nI (le + 1)), .int (nI to)] [] ca_Addresses_takeMailbox_121 d_Addresses_takeMailbox_139 rfl (hA4) rfl (Nat.le_of_ble_eq_true rfl) (z_putWords hT S4 (aO_go S r24 O) A4 (by omega) o3 (by simp only [List.length_append, List.length_singleton]; omega) H4 (by simp only [List.flatten_append, List.length_append, List.flatten_cons, List.flatten_nil, List.append_nil]; omega)) (fun h1 z => ?_)
    obtain ⟨σ5, S5, r5, p5, H5⟩ := z
    have r25 := rwR_tr r24 r5
    have p25 : ∀ τ, τ ∉ [20, 22, 24] → (σ5 τ).2.2 = (σ τ).2.2 := fun τ hτ => (subL p5 (by decide) τ hτ).trans (p24 τ hτ)
    have hA5 := rwR_obj S.1 r25 hA (by omega) (nrow (by decide))
    have K5 : (σ5 24).2.2 = s.1.map (fun m => m.2) := (p5 24 (by decide)).trans ((p4 24 (by decide)).trans ((p3 24 (by decide)).trans K2))
    refine ev_aload_n d_Addresses_takeMailbox_142 rfl rfl ?_
    refine ev_get (fa_Addresses_25 rfl rfl) d_Addresses_takeMailbox_143 hA5 rfl ?_
    refine ev_aload_n d_Addresses_takeMailbox_146 rfl rfl ?_
    refine ev_get (fa_Addresses_39 rfl rfl) d_Addresses_takeMailbox_147 hA5 rfl ?_
    refine ev_Vn (ci := 1) [.int s.2.2.2] [] ca_Addresses_takeMailbox_75 d_Addresses_takeMailbox_150 rfl ((S5.1.1 _ m24).1.1) rfl (Nat.le_of_ble_eq_true rfl) (w_radd hT S5 m24 s.2.2.2) (fun h1 z => ?_)
    obtain ⟨σ6, S6, r6, p6, K6⟩ := z
    refine ev_iconst (v := 1) d_Addresses_takeMailbox_153 (by decide) ?_
    refine ev_zret d_Addresses_takeMailbox_154 rfl rfl ?_
    have p26 : ∀ τ, τ ∉ [20, 22, 24] → (σ6 τ).2.2 = (σ τ).2.2 := fun τ hτ => (sub1 p6 (by decide) τ hτ).trans (p25 τ hτ)
    have e : mbL s g cm = s.1 ++ [((tt, ad_wT (ad_sl g fr le), ad_wT (ad_sl g (le + 1) to)), s.2.2.2)] := by unfold mbL; rw [hmb]
    refine ⟨_, rfl, by rw [hmb]; rfl, σ6, S6, rwR_tr r25 r6, subL p26 (by decide), ?_, ?_, ?_, acW_same A (fun τ hτ => p26 τ (by revert τ; decide))⟩
    · rw [e, f3_snoc]
      have := txH_same H5 (p6 20 (by decide)) (p6 22 (by decide))
      simp only [List.append_assoc, List.cons_append, List.nil_append] at this
      exact this
    · exact txH_same B26 (p26 27 (by decide)) (p26 29 (by decide))
    · rw [K6, K5, e, addR, if_pos (by rw [List.length_map]; omega), List.map_append]
      rfl
  -- the title
  have a85 : ∀ (fr to le : Nat) (tt : List Int32), fr ≤ le → le ≤ to → to ≤ g.length → ad_mb g cm = some (tt, ad_wT (ad_sl g fr le), ad_wT (ad_sl g (le + 1) to)) → (ov ≤ 0 ∧ tt = cm ∨ ∃ o : Nat, ov = nI o ∧ 0 < o ∧ o ≤ fr ∧ tt = ad_nT false (g.take o)) → ev_E G m_Addresses_takeMailbox 85 [(0, .ref (X + 18)), (1, .int ov), (2, .int (nI fr)), (3, .int (nI to)), (4, .int (nI le))] [] h (cr (fun y h' => y = .int (bI (ad_mb g cm).isSome) ∧ tP cI X h σ adR (fun σ' => txH σ' 19 (f3 (mbL s g cm)) [] ∧ txH σ' 26 s.2.1 [] ∧ (σ' 24).2.2 = (mbL s g cm).map (fun m => m.2) ∧ acW σ' W g) h')) := by
    intro fr to le tt o1 o2 o3 hmb htt
    have c1 := eW_sl (g := g) (a := fr) (b := le) o1 (by omega)
    have c2 : eW (g.take le) + eW (ad_sl g (le + 1) to) ≤ eW g := by
      rcases Nat.lt_or_ge le to with q | q
      · have h1 := eW_mono (g := g) (a := le) (b := le + 1) (by omega) (by omega)
        have h2 := eW_sl (g := g) (a := le + 1) (b := to) q o3
        have h3 := eW_mono (g := g) o3 (Nat.le_refl _)
        rw [eW_all] at h3
        omega
      · rw [sl_nil (show to ≤ le + 1 by omega)]
        have h3 := eW_mono (g := g) (a := le) (b := g.length) (by omega) (Nat.le_refl _)
        rw [eW_all] at h3
        simp only [eW]
        omega
    refine ev_iload_n d_Addresses_takeMailbox_85 rfl rfl ?_
    rcases htt with ⟨h0, htt⟩ | ⟨o, rfl, hop, hof, htt⟩
    · refine ev_if_le (tgt := 101) d_Addresses_takeMailbox_86 (by decide) (fun _ => ?_) (fun z => absurd h0 z)
      refine ev_aload_n d_Addresses_takeMailbox_101 rfl rfl ?_
      refine ev_get (fa_Addresses_18 rfl rfl) d_Addresses_takeMailbox_102 hA rfl ?_
      refine ev_aload_n d_Addresses_takeMailbox_105 rfl rfl ?_
      refine ev_get (fa_Addresses_9 rfl rfl) d_Addresses_takeMailbox_106 hA rfl ?_
      refine ev_Vv (ci := 4) [] [.ref (X + 19)] ca_Addresses_takeMailbox_115 d_Addresses_takeMailbox_109 rfl (hW) rfl (Nat.le_of_ble_eq_true rfl) (w_wtexts hW) ?_
      refine ev_aload_n d_Addresses_takeMailbox_112 rfl rfl ?_
      refine ev_get (fa_Addresses_42 rfl rfl) d_Addresses_takeMailbox_113 hA rfl ?_
      rcases hc with ⟨rfl, hcm⟩ | ⟨j, w, rfl, qj, hcm⟩
      · refine ev_Vn (ci := 3) [.ref (X + 11), .int (-1)] [] ca_Addresses_takeMailbox_118 d_Addresses_takeMailbox_116 rfl ((S.2 19 m19)) rfl (Nat.le_of_ble_eq_true rfl) (y_putText_no hT S m11 A.1.1 (by rw [List.length_map, List.length_map]; omega)) (fun h1 z => ?_)
        obtain rfl := z.symm
        refine a119 fr to le tt h σ o1 o2 o3 hmb (by rw [htt]; omega) S rwR_rf (fun _ _ => rfl) ?_ B24
        rw [htt, hcm]
        exact B19
      · refine ev_Vn (ci := 3) [.ref (X + 11), .int (nI j)] [] ca_Addresses_takeMailbox_118 d_Addresses_takeMailbox_116 rfl ((S.2 19 m19)) rfl (Nat.le_of_ble_eq_true rfl) (y_putText hT S m19 m11 (by decide) B19 A.1.1 (tx_atN qj) (by rw [List.length_map, List.length_map]; omega) (by have := hlw.2; unfold wdB at this; omega) (by rw [← hcm]; simp only [List.length_nil]; omega)) (fun h1 z => ?_)
        obtain ⟨σ2, S2, r2, p2, H2⟩ := z
        rw [List.nil_append, ← hcm, ← htt] at H2
        exact a119 fr to le tt h1 σ2 o1 o2 o3 hmb (by rw [htt]; omega) S2 r2 (sub1 p2 (by decide)) H2 ((p2 24 (by decide)).trans B24)
    · have hn := nT_len (g.take o) false
      have c3 := eW_mono (g := g) (a := o) (b := fr) hof (by omega)
      refine ev_if_le (tgt := 101) d_Addresses_takeMailbox_86 (by decide) (fun z => absurd z (nI_nle hop (by omega))) (fun _ => ?_)
      refine ev_aload_n d_Addresses_takeMailbox_89 rfl rfl ?_
      refine ev_aload_n d_Addresses_takeMailbox_90 rfl rfl ?_
      refine ev_get (fa_Addresses_18 rfl rfl) d_Addresses_takeMailbox_91 hA rfl ?_
      refine ev_iload_n d_Addresses_takeMailbox_94 rfl rfl ?_
      refine ev_Vn (ci := 5) [.ref (X + 19), .int (nI o)] [] ca_Addresses_takeMailbox_90 d_Addresses_takeMailbox_95 rfl (hA) rfl (Nat.le_of_ble_eq_true rfl) (z_putName hT S O A (t := 19) (by decide) (by omega) B19 (by omega)) (fun h1 z => ?_)
      obtain ⟨σ2, S2, r2, p2, H2⟩ := z
      rw [← htt] at H2
      refine ev_goto (tgt := 119) d_Addresses_takeMailbox_98 (by decide) ?_
      exact a119 fr to le tt h1 σ2 o1 o2 o3 hmb (by rw [htt]; omega) S2 r2 (sub1 p2 (by decide)) H2 ((p2 24 (by decide)).trans B24)
  have no : ∀ fr to le : Int32, ad_mb g cm = none → ev_E G m_Addresses_takeMailbox 83 [(0, .ref (X + 18)), (1, .int ov), (2, .int fr), (3, .int to), (4, .int le)] [] h (cr (fun y h' => y = .int (bI (ad_mb g cm).isSome) ∧ tP cI X h σ adR (fun σ' => txH σ' 19 (f3 (mbL s g cm)) [] ∧ txH σ' 26 s.2.1 [] ∧ (σ' 24).2.2 = (mbL s g cm).map (fun m => m.2) ∧ acW σ' W g) h')) := by
    intro fr to le hno
    refine ev_iconst (v := 0) d_Addresses_takeMailbox_83 (by decide) ?_
    refine ev_zret d_Addresses_takeMailbox_84 rfl rfl ?_
    exact nomb hno
  -- the spec
  have a52 : ∀ (fr to : Nat) (tt : List Int32), fr ≤ to → to ≤ g.length → ad_mb g cm = ad_fin tt (ad_sl g fr to) → (ov ≤ 0 ∧ tt = cm ∨ ∃ o : Nat, ov = nI o ∧ 0 < o ∧ o ≤ fr ∧ tt = ad_nT false (g.take o)) → ev_E G m_Addresses_takeMailbox 52 [(0, .ref (X + 18)), (1, .int ov), (2, .int (nI fr)), (3, .int (nI to))] [] h (cr (fun y h' => y = .int (bI (ad_mb g cm).isSome) ∧ tP cI X h σ adR (fun σ' => txH σ' 19 (f3 (mbL s g cm)) [] ∧ txH σ' 26 s.2.1 [] ∧ (σ' 24).2.2 = (mbL s g cm).map (fun m => m.2) ∧ acW σ' W g) h')) := by
    intro fr to tt o1 o2 hfin htt
    have hsl : (ad_sl g fr to).length = to - fr := sl_len o2
    have hsp := spc_cls (ad_sl g fr to)
    refine ev_aload_n d_Addresses_takeMailbox_52 rfl rfl ?_
    refine ev_iload_n d_Addresses_takeMailbox_53 rfl rfl ?_
    refine ev_iload_n d_Addresses_takeMailbox_54 rfl rfl ?_
    refine ev_iconst (v := 1) d_Addresses_takeMailbox_55 (by decide) ?_
    refine ev_Vv (ci := 5) [.int (nI fr), .int (nI to), .int (bI true)] [] ca_Addresses_takeMailbox_107 d_Addresses_takeMailbox_56 rfl (hA) rfl (Nat.le_of_ble_eq_true rfl) (z_dottedEnd hT S O A (by omega) o2 true) ?_
    refine ev_istore d_Addresses_takeMailbox_59 (by decide) ?_
    refine ev_iload d_Addresses_takeMailbox_61 rfl ?_
    refine ev_iconst (v := (-1)) d_Addresses_takeMailbox_63 (by decide) ?_
    cases hdE : ad_dE true (ad_sl g fr to) with
    | none =>
      rw [hdE] at hsp
      have e : dEI true fr (ad_sl g fr to) = -1 := by unfold dEI; rw [hdE]
      rw [e]
      refine ev_icmp_eq (tgt := 83) d_Addresses_takeMailbox_64 (by decide) (fun _ => ?_) (fun z => absurd rfl z)
      exact no _ _ _ (by rw [hfin]; unfold ad_fin; rw [hsp]; rfl)
    | some m =>
      rw [hdE] at hsp
      have hml := dE_le hdE
      have e : dEI true fr (ad_sl g fr to) = nI (fr + m) := by unfold dEI; rw [hdE]
      have hne : nI (fr + m) ≠ -1 := fun z => nI_pos (n := fr + m) (by omega) (by rw [z]; decide)
      rw [e]
      refine ev_icmp_eq (tgt := 83) d_Addresses_takeMailbox_64 (by decide) (fun z => absurd z hne) (fun _ => ?_)
      have yes : ad_spc (ad_sl g fr to) = some m → ad_mb g cm = some (tt, ad_wT (ad_sl g fr (fr + m)), ad_wT (ad_sl g (fr + m + 1) to)) := by
        intro hs
        rw [hfin]
        unfold ad_fin
        rw [hs]
        show some (tt, ad_wT ((ad_sl g fr to).take m), ad_wT ((ad_sl g fr to).drop (m + 1))) = _
        rw [sl_take (m := m) (by omega) o2, sl_drop]
        rfl
      refine ev_iload d_Addresses_takeMailbox_67 rfl ?_
      refine ev_iload_n d_Addresses_takeMailbox_69 rfl rfl ?_
      by_cases hge : to ≤ fr + m
      · refine ev_icmp_ge (tgt := 85) d_Addresses_takeMailbox_70 (by decide) (fun _ => ?_) (fun z => absurd (nI_le hge (by omega)) z)
        exact a85 fr to (fr + m) tt (by omega) (by omega) o2 (yes (by rw [hsp]; exact if_pos (by omega))) htt
      · refine ev_icmp_ge (tgt := 85) d_Addresses_takeMailbox_70 (by decide) (fun z => absurd z (nI_ge (by omega) (by omega))) (fun _ => ?_)
        have qw : g[fr + m]? = some g[fr + m] := List.getElem?_eq_getElem (by omega)
        generalize g[fr + m] = w at qw
        have hsp2 : ad_spc (ad_sl g fr to) = bif wIs w 64 && ad_dom (ad_sl g (fr + m + 1) to) then some m else none := by
          rw [hsp]
          simp only
          rw [if_neg (by omega), sl_get (by omega), qw, sl_drop]
          rfl
        refine ev_aload_n d_Addresses_takeMailbox_73 rfl rfl ?_
        refine ev_iload d_Addresses_takeMailbox_74 rfl ?_
        refine ev_iload_n d_Addresses_takeMailbox_76 rfl rfl ?_
        refine ev_Vv (ci := 5) [.int (nI (fr + m)), .int (nI to)] [] ca_Addresses_takeMailbox_111 d_Addresses_takeMailbox_77 rfl (hA) rfl (Nat.le_of_ble_eq_true rfl) (z_isDomainBehind hT S O A (by omega) o2 qw) ?_
        cases hq : wIs w 64 && ad_dom (ad_sl g (fr + m + 1) to) with
        | true =>
          rw [hq] at hsp2
          refine ev_if_ne (tgt := 85) d_Addresses_takeMailbox_80 (by decide) (fun _ => ?_) (fun z => absurd (show (1 : Int32) = 0 from z) (by decide))
          exact a85 fr to (fr + m) tt (by omega) (by omega) o2 (yes hsp2) htt
        | false =>
          rw [hq] at hsp2
          refine ev_if_ne (tgt := 85) d_Addresses_takeMailbox_80 (by decide) (fun z => absurd rfl z) (fun _ => ?_)
          exact no _ _ _ (by rw [hfin]; unfold ad_fin; rw [hsp2]; rfl)
  have n41 : ∀ fr to : Int32, ad_mb g cm = none → ev_E G m_Addresses_takeMailbox 41 [(0, .ref (X + 18)), (1, .int ov), (2, .int fr), (3, .int to)] [] h (cr (fun y h' => y = .int (bI (ad_mb g cm).isSome) ∧ tP cI X h σ adR (fun σ' => txH σ' 19 (f3 (mbL s g cm)) [] ∧ txH σ' 26 s.2.1 [] ∧ (σ' 24).2.2 = (mbL s g cm).map (fun m => m.2) ∧ acW σ' W g) h')) := by
    intro fr to hno
    refine ev_iconst (v := 0) d_Addresses_takeMailbox_41 (by decide) ?_
    refine ev_zret d_Addresses_takeMailbox_42 rfl rfl ?_
    exact nomb hno
  refine ev_istore_n d_Addresses_takeMailbox_4 rfl (by decide) ?_
  refine ev_iconst (v := 0) d_Addresses_takeMailbox_5 (by decide) ?_
  refine ev_istore_n d_Addresses_takeMailbox_6 rfl (by decide) ?_
  refine ev_aload_n d_Addresses_takeMailbox_7 rfl rfl ?_
  refine ev_get (fa_Addresses_32 rfl rfl) d_Addresses_takeMailbox_8 hA rfl ?_
  refine ev_Vv (ci := 1) [] [] ca_Addresses_takeMailbox_45 d_Addresses_takeMailbox_11 rfl ((S.1.1 _ m31).1.1) rfl (Nat.le_of_ble_eq_true rfl) (w_size S.1 m31) ?_
  rw [ga_len A.2.1]
  refine ev_istore_n d_Addresses_takeMailbox_14 rfl (by decide) ?_
  refine ev_iload_n d_Addresses_takeMailbox_15 rfl rfl ?_
  refine ev_iconst (v := (-1)) d_Addresses_takeMailbox_16 (by decide) ?_
  by_cases ho : ad_op g < g.length
  · rw [if_pos ho] at hov
    subst hov
    obtain ⟨wo, qo, h60⟩ := op_at g ho
    have hne : nI (ad_op g) ≠ -1 := fun z => nI_pos (n := ad_op g) (by omega) (by rw [z]; decide)
    refine ev_icmp_eq (tgt := 52) d_Addresses_takeMailbox_17 (by decide) (fun z => absurd z hne) (fun _ => ?_)
    have ql : g[g.length - 1]? = some g[g.length - 1] := List.getElem?_eq_getElem (by omega)
    generalize g[g.length - 1] = wl at ql
    have hlst : ad_lst g = wIs wl 62 := by unfold ad_lst; rw [ql]
    refine ev_iinc d_Addresses_takeMailbox_20 rfl (by decide) ?_
    refine ev_aload_n d_Addresses_takeMailbox_23 rfl rfl ?_
    refine ev_iload_n d_Addresses_takeMailbox_24 rfl rfl ?_
    rw [nI_dec (show 1 ≤ g.length by omega)]
    refine ev_Vv (ci := 5) [.int (nI (g.length - 1))] [] ca_Addresses_takeMailbox_100 d_Addresses_takeMailbox_25 rfl (hA) rfl (Nat.le_of_ble_eq_true rfl) (z_kindAt hT S O A (nI (g.length - 1))) ?_
    rw [gk_at (by omega) ql]
    refine ev_bipush (v := 62) d_Addresses_takeMailbox_28 (by decide) ?_
    cases h62 : wIs wl 62 with
    | false =>
      refine ev_icmp_ne (tgt := 41) d_Addresses_takeMailbox_30 (by decide) (fun _ => ?_) (fun z => absurd z (nK_s (ac_wf A ql) (by decide) h62))
      refine n41 _ _ ?_
      unfold ad_mb
      rw [if_pos ho, if_neg (fun z => by rw [hlst, h62] at z; cases z.1)]
    | true =>
      refine ev_icmp_ne (tgt := 41) d_Addresses_takeMailbox_30 (by decide) (fun z => absurd ((cK_s (ac_wf A ql) (by decide)).mpr h62) z) (fun _ => ?_)
      refine ev_aload_n d_Addresses_takeMailbox_33 rfl rfl ?_
      refine ev_iload_n d_Addresses_takeMailbox_34 rfl rfl ?_
      refine ev_Vv (ci := 5) [.int (nI (ad_op g))] [] ca_Addresses_takeMailbox_86 d_Addresses_takeMailbox_35 rfl (hA) rfl (Nat.le_of_ble_eq_true rfl) (z_isName hT S O A (Nat.le_of_lt ho)) ?_
      cases hal : ad_all (g.take (ad_op g)) with
      | false =>
        refine ev_if_ne (tgt := 43) d_Addresses_takeMailbox_38 (by decide) (fun z => absurd rfl z) (fun _ => ?_)
        refine n41 _ _ ?_
        unfold ad_mb
        rw [if_pos ho, if_neg (fun z => by rw [hal] at z; cases z.2)]
      | true =>
        refine ev_if_ne (tgt := 43) d_Addresses_takeMailbox_38 (by decide) (fun _ => ?_) (fun z => absurd (show (1 : Int32) = 0 from z) (by decide))
        have hol : ad_op g ≠ g.length - 1 := fun z => by
          rw [z, ql] at qo
          cases qo
          rw [wIs_ne h60 (by decide)] at h62
          cases h62
        have hrn : (ad_rN (ad_sl g (ad_op g + 1) (g.length - 1))).getD 0 ≤ g.length - 1 - (ad_op g + 1) := by
          cases hx : ad_rN (ad_sl g (ad_op g + 1) (g.length - 1)) with
          | none => exact Nat.zero_le _
          | some m =>
            have := rN_le _ m hx
            rw [sl_len (by omega)] at this
            exact this
        refine ev_aload_n d_Addresses_takeMailbox_43 rfl rfl ?_
        refine ev_iload_n d_Addresses_takeMailbox_44 rfl rfl ?_
        refine ev_iconst (v := 1) d_Addresses_takeMailbox_45 (by decide) ?_
        refine ev_iadd d_Addresses_takeMailbox_46 ?_
        rw [nI_1]
        refine ev_iload_n d_Addresses_takeMailbox_47 rfl rfl ?_
        refine ev_Vv (ci := 5) [.int (nI (ad_op g + 1)), .int (nI (g.length - 1))] [] ca_Addresses_takeMailbox_103 d_Addresses_takeMailbox_48 rfl (hA) rfl (Nat.le_of_ble_eq_true rfl) (z_behindRoute hT S O A (by omega) (by omega)) ?_
        refine ev_istore_n d_Addresses_takeMailbox_51 rfl (by decide) ?_
        have hmb : ad_mb g cm = ad_fin (if ad_op g = 0 then cm else ad_nT false (g.take (ad_op g))) (ad_sl g (ad_op g + 1 + (ad_rN (ad_sl g (ad_op g + 1) (g.length - 1))).getD 0) (g.length - 1)) := by
          unfold ad_mb
          rw [if_pos ho, if_pos ⟨hlst.trans h62, hal⟩, ← sl_drop]
          rfl
        refine a52 _ (g.length - 1) _ (by omega) (by omega) hmb ?_
        by_cases hz : ad_op g = 0
        · exact Or.inl ⟨by rw [hz]; decide, if_pos hz⟩
        · exact Or.inr ⟨ad_op g, rfl, by omega, by omega, if_neg hz⟩
  · rw [if_neg ho] at hov
    subst hov
    refine ev_icmp_eq (tgt := 52) d_Addresses_takeMailbox_17 (by decide) (fun _ => ?_) (fun z => absurd rfl z)
    have e : ad_sl g 0 g.length = g := by unfold ad_sl; rw [List.take_length]; rfl
    exact a52 0 g.length cm (Nat.zero_le _) (Nat.le_refl _) (by rw [e]; unfold ad_mb; rw [if_neg ho]) (Or.inl ⟨by decide, rfl⟩)
end ACL3
