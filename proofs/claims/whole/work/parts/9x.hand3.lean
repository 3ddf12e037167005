/-- pieces ahead of j -/
def pcB (j : Nat) (x : Prm) : Bool := decide (∃ m, m < j ∧ x.2.1 = nI m)
theorem val_le {Q : List Prm} {k : Nat} {q : Prm} (hq : Q[k]? = some q) : q.2.2.2.length ≤ sumV Q := by
  have h1 := sumV_step (p := fun _ => false) (p' := fun _ => true) (fun _ z => by cases z) (q := q) rfl rfl Q k hq
  have h2 := sumV_le (fun _ => true) Q
  omega
theorem decS_le (cd : Bool) {n : Nat} {l : List Int32} (h : l.length ≤ n) : (decS cd n l).length ≤ l.length := decS_len cd n l h
theorem bh_len (q : Prm) : (bhOf q).length ≤ q.2.2.2.length := by
  unfold bhOf
  cases hc : chOf q with
  | none => exact Nat.le_refl _
  | some x => exact (chOf_len (ch := x.1) (bs := x.2) hc).2.1
theorem vl_len (q : Prm) : (vlOf q).length ≤ q.2.2.2.length := by
  rw [vlOf_bh]
  exact Nat.le_trans (decS_le _ (bh_len q)) (bh_len q)
theorem chL_len (q : Prm) : (chL q).length ≤ q.2.2.2.length := by
  unfold chL
  cases hc : chOf q with
  | none => exact Nat.zero_le _
  | some x => exact (chOf_len (ch := x.1) (bs := x.2) hc).1
section HAND3
variable {G : gl_G} {cI : ClassId} {X : Nat}
theorem ctQ_hn {σ σ' : rwT} {Q : List Prm} (H : ctQ σ Q) (h : ∀ τ, τ ∉ hnR → (σ' τ).2.2 = (σ τ).2.2) : ctQ σ' Q := ctQ_same H (fun τ hτ => h τ (by revert τ; decide))
theorem ly_putBytes (hNm : gl_nm G) (hT : (gl_t G)[0]? = some (cI, .int)) {Q : List Prm} {k : Nat} {q : Prm} (hq : Q[k]? = some q) {f : Int32} {Ls : List (List Int32)} (hv4 : q.2.2.2.length ≤ 1600) : ∀ (n i : Nat) (op : List Int32) (h : hp_T) (σ : rwT), (q.2.2.2.drop i).length ≤ n → i < 2 ^ 30 → Ls.flatten.length + op.length + (q.2.2.2.drop i).length < 4096 → tS cI X h σ → cO X h → ctQ σ Q → txH σ 60 Ls op → ev_E G m_ContentType_putBytes 31 [(0, .ref (X + 40)), (1, .int (nI k)), (2, .int f), (3, .int (bI q.2.2.1)), (4, .int (nI q.2.2.2.length)), (5, .int (nI i))] [] h (cn (tP cI X h σ hnR (fun σ' => txH σ' 60 Ls (op ++ decS q.2.2.1 n (q.2.2.2.drop i))))) := by
  have m51 : (51 : Nat) ∈ txs := by decide
  have m60 : (60 : Nat) ∈ txs := by decide
  intro n
  induction n with
  | zero =>
    intro i op h σ hn hi hb S O HQ H
    rw [List.length_drop] at hn
    refine ev_iload d_ContentType_putBytes_31 rfl ?_
    refine ev_iload d_ContentType_putBytes_33 rfl ?_
    refine ev_icmp_ge (tgt := 112) d_ContentType_putBytes_35 (by decide) (fun _ => ?_) (fun z => absurd (nI_le (by omega) (by omega)) z)
    refine ev_vret d_ContentType_putBytes_112 rfl ?_
    refine ⟨rfl, σ, S, rwR_rf, fun _ _ => rfl, ?_⟩
    rw [decS, List.append_nil]
    exact H
  | succ n ih =>
    intro i op h σ hn hi hb S O HQ H
    obtain ⟨hv, -, b1, b2⟩ := ctQ_v S HQ hq
    refine ev_iload d_ContentType_putBytes_31 rfl ?_
    refine ev_iload d_ContentType_putBytes_33 rfl ?_
    refine ev_icmp_ge (tgt := 112) d_ContentType_putBytes_35 (by decide) (fun c35 => ?_) (fun c35 => ?_)
    · have hge := (nI_leI (by omega) (by omega)).mp c35
      refine ev_vret d_ContentType_putBytes_112 rfl ?_
      refine ⟨rfl, σ, S, rwR_rf, fun _ _ => rfl, ?_⟩
      rw [List.drop_eq_nil_of_le hge, decS, List.append_nil]
      exact H
    have hlt : i < q.2.2.2.length := Nat.lt_of_not_le (fun z => c35 (nI_le z (by omega)))
    have da := drop_at hlt (by omega)
    refine ev_aload_n d_ContentType_putBytes_38 rfl rfl ?_
    refine ev_get (fa_ContentType_25 rfl rfl) d_ContentType_putBytes_39 O.1 rfl ?_
    refine ev_iload_n d_ContentType_putBytes_42 rfl rfl ?_
    refine ev_iload d_ContentType_putBytes_43 rfl ?_
    refine ev_Vv (ci := 3) [.int (nI k), .int (nI i)] [] ca_ContentType_putBytes_82 d_ContentType_putBytes_45 rfl ((S.2 51 m51)) rfl (Nat.le_of_ble_eq_true rfl) (w_byteOf hT S m51 (nI k) (nI i)) ?_
    rw [show btO (σ (51 + 1)).2.2 (σ (51 + 3)).2.2 (nI k) (nI i) = rg q.2.2.2 (nI i) from by
      rw [show (σ (51 + 1)).2.2 = _ from HQ.2.1.1, show (σ (51 + 3)).2.2 = _ from HQ.2.1.2]
      exact btT (by rw [List.length_map]; omega) (by omega) hv _]
    generalize hy : rg q.2.2.2 (nI i) = y at da
    rw [da, List.length_cons] at hn hb
    -- one byte as it is
    have one : dec1 q.2.2.1 y (q.2.2.2.drop (i + 1)) = (y, q.2.2.2.drop (i + 1)) → ev_E G m_ContentType_putBytes 74 [(0, .ref (X + 40)), (1, .int (nI k)), (2, .int f), (3, .int (bI q.2.2.1)), (4, .int (nI q.2.2.2.length)), (5, .int (nI i)), (6, .int y)] [.int (-1)] h (cn (tP cI X h σ hnR (fun σ' => txH σ' 60 Ls (op ++ decS q.2.2.1 (n + 1) (q.2.2.2.drop i))))) := by
      intro hd
      refine ev_istore d_ContentType_putBytes_74 (by decide) ?_
      refine ev_iload d_ContentType_putBytes_76 rfl ?_
      refine ev_iconst (v := (-1)) d_ContentType_putBytes_78 (by decide) ?_
      refine ev_icmp_ne (tgt := 94) d_ContentType_putBytes_79 (by decide) (fun z => absurd rfl z) (fun _ => ?_)
      refine ev_aload_n d_ContentType_putBytes_82 rfl rfl ?_
      refine ev_get (fa_ContentType_38 rfl rfl) d_ContentType_putBytes_83 O.1 rfl ?_
      refine ev_iload d_ContentType_putBytes_86 rfl ?_
      refine ev_Vn (ci := 3) [.int y] [] ca_ContentType_putBytes_120 d_ContentType_putBytes_88 rfl ((S.2 60 m60)) rfl (Nat.le_of_ble_eq_true rfl) (y_put hT S m60 H (by omega) y) (fun h1 z => ?_)
      obtain ⟨σ1, S1, r1, p1, H1⟩ := z
      refine ev_goto (tgt := 106) d_ContentType_putBytes_91 (by decide) ?_
      refine ev_iinc d_ContentType_putBytes_106 rfl (by decide) ?_
      refine ev_goto (tgt := 31) d_ContentType_putBytes_109 (by decide) ?_
      refine ev_as [(0, .ref (X + 40)), (1, .int (nI k)), (2, .int f), (3, .int (bI q.2.2.1)), (4, .int (nI q.2.2.2.length)), (5, .int (nI (i + 1)))] ⟨rfl, rfl, rfl, rfl, rfl, ?_, trivial⟩ (ev_to (ih (i + 1) (op ++ [y]) h1 σ1 (by omega) (by omega) (by rw [List.length_append]; show _ + (_ + 1) + _ < _; omega) S1 (cO_go S r1 O) (ctQ_hn HQ (fun τ hτ => p1 τ (fun z => hτ (by simp at z; simp [z])))) H1) ?_)
      · show some (Value.int (nI i + Int32.ofInt 1)) = _
        rw [show nI i + Int32.ofInt 1 = nI (i + 1) from nI_1 i]
      · rintro o h' ⟨rfl, σ2, q1, q2, q3, q4⟩
        refine ⟨rfl, σ2, q1, rwR_tr r1 q2, fun τ hτ => (q3 τ hτ).trans (p1 τ (fun z => hτ (by simp at z; simp [z]))), ?_⟩
        rw [da, decS, hd]
        rw [List.append_assoc] at q4
        exact q4
    refine ev_istore d_ContentType_putBytes_48 (by decide) ?_
    refine ev_iload_n d_ContentType_putBytes_50 rfl rfl ?_
    cases hcd : q.2.2.1 with
    | false =>
      rw [hcd] at one
      refine ev_if_eq (tgt := 73) d_ContentType_putBytes_51 (by decide) (fun _ => ?_) (fun z => absurd rfl z)
      refine ev_iconst (v := (-1)) d_ContentType_putBytes_73 (by decide) ?_
      exact one (if_neg (fun z => absurd z.1 (by decide)))
    | true =>
      rw [hcd] at one
      refine ev_if_eq (tgt := 73) d_ContentType_putBytes_51 (by decide) (fun z => absurd (show (1 : Int32) = 0 from z) (by decide)) (fun _ => ?_)
      refine ev_iload d_ContentType_putBytes_54 rfl ?_
      refine ev_bipush (v := 37) d_ContentType_putBytes_56 (by decide) ?_
      by_cases h37 : y = 37
      · refine ev_icmp_ne (tgt := 73) d_ContentType_putBytes_58 (by decide) (fun z => absurd h37 z) (fun _ => ?_)
        refine ev_aload_n d_ContentType_putBytes_61 rfl rfl ?_
        refine ev_iload_n d_ContentType_putBytes_62 rfl rfl ?_
        refine ev_iload d_ContentType_putBytes_63 rfl ?_
        refine ev_iconst (v := 1) d_ContentType_putBytes_65 (by decide) ?_
        refine ev_iadd d_ContentType_putBytes_66 ?_
        rw [nI_1]
        refine ev_Vv (ci := 8) [.int (nI k), .int (nI (i + 1))] [] ca_ContentType_putBytes_117 d_ContentType_putBytes_67 rfl (O.1) rfl (Nat.le_of_ble_eq_true rfl) (y_hexadecimal hNm hT S O HQ hq (i + 1)) ?_
        refine ev_goto (tgt := 74) d_ContentType_putBytes_70 (by decide) ?_
        have ga : ∀ j : Nat, i + 1 + j < 2 ^ 31 → rg q.2.2.2 (nI (i + 1 + j)) = (q.2.2.2.drop (i + 1)).getD j (-1) := fun j hj => by
          rw [rg_nat hj, List.getD_eq_getElem?_getD, List.getD_eq_getElem?_getD, List.getElem?_drop]
        have g0 := ga 0 (by omega)
        have g1 := ga 1 (by omega)
        rw [Nat.add_zero] at g0
        rw [g0, g1]
        have l1 : (q.2.2.2.drop (i + 1)).length = q.2.2.2.length - (i + 1) := List.length_drop
        generalize ht : q.2.2.2.drop (i + 1) = t at one
        rw [ht] at l1
        by_cases h2 : 2 ≤ t.length
        · have e0 : t.getD 0 (-1) = t.getD 0 0 := by rw [List.getD_eq_getElem?_getD, List.getD_eq_getElem?_getD, List.getElem?_eq_getElem (show 0 < t.length by omega)]; rfl
          have e1 : t.getD 1 (-1) = t.getD 1 0 := by rw [List.getD_eq_getElem?_getD, List.getD_eq_getElem?_getD, List.getElem?_eq_getElem (show 1 < t.length by omega)]; rfl
          rw [e0, e1]
          have m1 : (-1 : Int32) < 0 := by decide
          rcases hex_or (t.getD 0 0) with k0 | ⟨x0, x1, k0⟩
          · rw [if_pos (Or.inl k0)]
            exact one (if_neg (fun z => z.2.2.2.1 (by rw [k0]; exact m1)))
          · rcases hex_or (t.getD 1 0) with k1 | ⟨y0, y1, k1⟩
            · rw [if_pos (Or.inr k1)]
              exact one (if_neg (fun z => z.2.2.2.2 (by rw [k1]; exact m1)))
            · have n0 : ¬ nI x0 = -1 := fun z => nI_pos (n := x0) (by omega) (by rw [z]; decide)
              have n1 : ¬ nI y0 = -1 := fun z => nI_pos (n := y0) (by omega) (by rw [z]; decide)
              rw [if_neg (fun z => z.elim (by rw [k0]; exact n0) (by rw [k1]; exact n1)), k0, k1]
              have e16 : (16 : Int32) * nI x0 + nI y0 = nI (16 * x0 + y0) := by
                rw [show (16 : Int32) * nI x0 = nI (16 * x0) from (Int32.ofNat_mul 16 x0).symm, nI_add]
              have hd : dec1 true y t = (nI (16 * x0 + y0), t.drop 2) := by
                unfold dec1
                rw [if_pos ⟨rfl, h37, h2, by rw [k0]; exact nI_pos (by omega), by rw [k1]; exact nI_pos (by omega)⟩, k0, k1, e16]
              rw [e16]
              refine ev_istore d_ContentType_putBytes_74 (by decide) ?_
              refine ev_iload d_ContentType_putBytes_76 rfl ?_
              refine ev_iconst (v := (-1)) d_ContentType_putBytes_78 (by decide) ?_
              refine ev_icmp_ne (tgt := 94) d_ContentType_putBytes_79 (by decide) (fun _ => ?_) (fun z => absurd z (fun z => nI_pos (n := 16 * x0 + y0) (by omega) (by rw [z]; decide)))
              refine ev_aload_n d_ContentType_putBytes_94 rfl rfl ?_
              refine ev_get (fa_ContentType_38 rfl rfl) d_ContentType_putBytes_95 O.1 rfl ?_
              refine ev_iload d_ContentType_putBytes_98 rfl ?_
              refine ev_Vn (ci := 3) [.int (nI (16 * x0 + y0))] [] ca_ContentType_putBytes_120 d_ContentType_putBytes_100 rfl ((S.2 60 m60)) rfl (Nat.le_of_ble_eq_true rfl) (y_put hT S m60 H (by omega) _) (fun h1 z => ?_)
              obtain ⟨σ1, S1, r1, p1, H1⟩ := z
              refine ev_iinc d_ContentType_putBytes_103 rfl (by decide) ?_
              refine ev_iinc d_ContentType_putBytes_106 rfl (by decide) ?_
              refine ev_goto (tgt := 31) d_ContentType_putBytes_109 (by decide) ?_
              have ed : q.2.2.2.drop (i + 3) = t.drop 2 := by rw [← ht, List.drop_drop]
              have htl : (q.2.2.2.drop (i + 1)).length = t.length := by rw [ht]
              refine ev_as [(0, .ref (X + 40)), (1, .int (nI k)), (2, .int f), (3, .int (bI q.2.2.1)), (4, .int (nI q.2.2.2.length)), (5, .int (nI (i + 3)))] ⟨rfl, rfl, rfl, by rw [hcd]; rfl, rfl, ?_, trivial⟩ (ev_to (ih (i + 3) (op ++ [nI (16 * x0 + y0)]) h1 σ1 (by rw [ed, List.length_drop]; omega) (by omega) (by rw [ed, List.length_append, List.length_drop]; show _ + (_ + 1) + _ < _; omega) S1 (cO_go S r1 O) (ctQ_hn HQ (fun τ hτ => p1 τ (fun z => hτ (by simp at z; simp [z])))) H1) ?_)
              · show some (Value.int (nI i + Int32.ofInt 2 + Int32.ofInt 1)) = _
                rw [show nI i + Int32.ofInt 2 = nI (i + 2) from nI_add i 2, show nI (i + 2) + Int32.ofInt 1 = nI (i + 3) from nI_1 (i + 2)]
              · rintro o h' ⟨rfl, σ2, q1, q2, q3, q4⟩
                refine ⟨rfl, σ2, q1, rwR_tr r1 q2, fun τ hτ => (q3 τ hτ).trans (p1 τ (fun z => hτ (by simp at z; simp [z]))), ?_⟩
                rw [da, ht, decS, hd]
                rw [List.append_assoc, ed, hcd] at q4
                exact q4
        · have e1 : sp_hex (t.getD 1 (-1)) = -1 := by
            rw [List.getD_eq_getElem?_getD, List.getElem?_eq_none (by omega)]
            decide
          rw [if_pos (Or.inr e1)]
          exact one (if_neg (fun z => h2 z.2.2.1))
      · refine ev_icmp_ne (tgt := 73) d_ContentType_putBytes_58 (by decide) (fun _ => ?_) (fun z => absurd z h37)
        refine ev_iconst (v := (-1)) d_ContentType_putBytes_73 (by decide) ?_
        exact one (if_neg (fun z => h37 z.2.1))
theorem y_putBytes (hNm : gl_nm G) (hT : (gl_t G)[0]? = some (cI, .int)) {h : hp_T} {σ : rwT} (S : tS cI X h σ) (O : cO X h) {Q : List Prm} (HQ : ctQ σ Q) {k : Nat} {q : Prm} (hq : Q[k]? = some q) (hv4 : q.2.2.2.length ≤ 1600) {Ls : List (List Int32)} {op : List Int32} (H : txH σ 60 Ls op) {st : Nat} (hst : st ≤ q.2.2.2.length) (hb : Ls.flatten.length + op.length + q.2.2.2.length < 4096) : ct_E G m_ContentType_putBytes [.ref (X + 40), .int (nI k), .int (nI st)] h (cn (tP cI X h σ hnR (fun σ' => txH σ' 60 Ls (op ++ decS q.2.2.1 q.2.2.2.length (q.2.2.2.drop st))))) := by
  have m51 : (51 : Nat) ∈ txs := by decide
  have m58 : (58 : Nat) ∈ rws := by decide
  have hk := (List.getElem?_eq_some_iff.mp hq).1
  obtain ⟨hv, -, b1, b2⟩ := ctQ_v S HQ hq
  have a17 : ev_E G m_ContentType_putBytes 17 [(0, .ref (X + 40)), (1, .int (nI k)), (2, .int (nI st))] [.int (bI q.2.2.1)] h (cn (tP cI X h σ hnR (fun σ' => txH σ' 60 Ls (op ++ decS q.2.2.1 q.2.2.2.length (q.2.2.2.drop st))))) := by
    refine ev_istore_n d_ContentType_putBytes_17 rfl (by decide) ?_
    refine ev_aload_n d_ContentType_putBytes_18 rfl rfl ?_
    refine ev_get (fa_ContentType_25 rfl rfl) d_ContentType_putBytes_19 O.1 rfl ?_
    refine ev_iload_n d_ContentType_putBytes_22 rfl rfl ?_
    refine ev_Vv (ci := 3) [.int (nI k)] [] ca_ContentType_putBytes_72 d_ContentType_putBytes_23 rfl ((S.2 51 m51)) rfl (Nat.le_of_ble_eq_true rfl) (w_sizeOf hT S m51 (nI k)) ?_
    rw [show szO (σ (51 + 3)).2.2 (nI k) = nI q.2.2.2.length from by rw [show (σ (51 + 3)).2.2 = _ from HQ.2.1.2]; exact szT (by rw [List.length_map]; omega) hv]
    refine ev_istore d_ContentType_putBytes_26 (by decide) ?_
    refine ev_iload_n d_ContentType_putBytes_28 rfl rfl ?_
    refine ev_istore d_ContentType_putBytes_29 (by decide) ?_
    exact ly_putBytes hNm hT hq hv4 q.2.2.2.length st op h σ (by rw [List.length_drop]; omega) (by omega) (by rw [List.length_drop]; omega) S O HQ H
  refine ct_of (ws' := tb_all) rfl rfl (Nat.le_of_ble_eq_true rfl) ?_
  refine ev_aload_n d_ContentType_putBytes_0 rfl rfl ?_
  refine ev_get (fa_ContentType_35 rfl rfl) d_ContentType_putBytes_1 O.1 rfl ?_
  refine ev_iload_n d_ContentType_putBytes_4 rfl rfl ?_
  refine ev_Vv (ci := 1) [.int (nI k)] [] ca_ContentType_putBytes_54 d_ContentType_putBytes_5 rfl ((S.1.1 _ m58).1.1) rfl (Nat.le_of_ble_eq_true rfl) (w_get hT S.1 m58 (nI k)) ?_
  rw [HQ.2.2.2, rg_at (show (Q.map (fun q => bI q.2.2.1))[k]? = some (bI q.2.2.1) by rw [List.getElem?_map, hq]; rfl) (by omega)]
  refine ev_iconst (v := 1) d_ContentType_putBytes_8 (by decide) ?_
  cases hcd : q.2.2.1 with
  | false =>
    rw [hcd] at a17
    refine ev_icmp_ne (tgt := 16) d_ContentType_putBytes_9 (by decide) (fun _ => ?_) (fun z => absurd (show (0 : Int32) = 1 from z) (by decide))
    refine ev_iconst (v := 0) d_ContentType_putBytes_16 (by decide) ?_
    exact a17
  | true =>
    rw [hcd] at a17
    refine ev_icmp_ne (tgt := 16) d_ContentType_putBytes_9 (by decide) (fun z => absurd rfl z) (fun _ => ?_)
    refine ev_iconst (v := 1) d_ContentType_putBytes_12 (by decide) ?_
    refine ev_goto (tgt := 17) d_ContentType_putBytes_13 (by decide) ?_
    exact a17
end HAND3
