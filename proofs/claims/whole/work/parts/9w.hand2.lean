theorem hx_128 : ∀ n, n < 128 → hxD (nI n) = sp_hex (nI n) := by decide +kernel
theorem hxD_hex (c : Int32) : hxD c = sp_hex c := by
  by_cases h0 : c < 0
  · have g65 : c < 65 := Int32.lt_trans h0 (by decide)
    have g48 : c < 48 := Int32.lt_trans h0 (by decide)
    have g97 : c < 97 := Int32.lt_trans h0 (by decide)
    have es : sp_small c = c := if_neg (fun z => z.1 g65)
    unfold hxD sp_hex
    rw [es, if_neg (fun z => z.1 g97), show sp_dig c = -1 from if_neg (fun z => z.1 g48), show sp_digit c = 0 from if_neg (fun z => z.1 g48), if_neg (fun z => z rfl), if_neg (fun z => z.1 g97), if_neg (fun z => z.1 g65)]
  · obtain ⟨n, hn, rfl⟩ := nI_of h0
    rcases Nat.lt_or_ge n 128 with q | q
    · exact hx_128 n q
    · have g90 : (90 : Int32) < nI n := nI_lt (a := 90) (by omega) hn
      have g102 : (102 : Int32) < nI n := nI_lt (a := 102) (by omega) hn
      have g57 : (57 : Int32) < nI n := nI_lt (a := 57) (by omega) hn
      have g70 : (70 : Int32) < nI n := nI_lt (a := 70) (by omega) hn
      have es : sp_small (nI n) = nI n := if_neg (fun z => z.2 g90)
      unfold hxD sp_hex
      rw [es, if_neg (fun z => z.2 g102), show sp_dig (nI n) = -1 from if_neg (fun z => z.2 g57), show sp_digit (nI n) = 0 from if_neg (fun z => z.2 g57), if_neg (fun z => z rfl), if_neg (fun z => z.2 g102), if_neg (fun z => z.2 g70)]
/-- a hexadecimal digit's number, or -1 -/
theorem hex_or (c : Int32) : sp_hex c = -1 ∨ ∃ k : Nat, k < 16 ∧ sp_hex c = nI k := by
  by_cases h0 : c < 0
  · left
    have g65 : c < 65 := Int32.lt_trans h0 (by decide)
    have g48 : c < 48 := Int32.lt_trans h0 (by decide)
    have g97 : c < 97 := Int32.lt_trans h0 (by decide)
    unfold sp_hex
    rw [show sp_digit c = 0 from if_neg (fun z => z.1 g48), if_neg (fun z => z rfl), if_neg (fun z => z.1 g97), if_neg (fun z => z.1 g65)]
  · obtain ⟨n, hn, rfl⟩ := nI_of h0
    rcases Nat.lt_or_ge n 128 with q | q
    · exact (show ∀ n, n < 128 → sp_hex (nI n) = -1 ∨ ∃ k : Nat, k < 16 ∧ sp_hex (nI n) = nI k by decide +kernel) n q
    · left
      have g102 : (102 : Int32) < nI n := nI_lt (a := 102) (by omega) hn
      have g57 : (57 : Int32) < nI n := nI_lt (a := 57) (by omega) hn
      have g70 : (70 : Int32) < nI n := nI_lt (a := 70) (by omega) hn
      unfold sp_hex
      rw [show sp_digit (nI n) = 0 from if_neg (fun z => z.2 g57), if_neg (fun z => z rfl), if_neg (fun z => z.2 g102), if_neg (fun z => z.2 g70)]
/-- what stands behind CHARSET and LANGUAGE -/
def bhOf (q : Prm) : List Int32 := match chOf q with
  | none => q.2.2.2
  | some (_, bs) => bs
theorem vlOf_bh (q : Prm) : vlOf q = decS q.2.2.1 q.2.2.2.length (bhOf q) := by
  unfold vlOf bhOf
  cases chOf q with
  | none => rfl
  | some x => rfl
section HAND2
variable {G : gl_G} {cI : ClassId} {X : Nat}
theorem ctQ_v {h : hp_T} {σ : rwT} (S : tS cI X h σ) {Q : List Prm} (HQ : ctQ σ Q) {k : Nat} {q : Prm} (hq : Q[k]? = some q) : (Q.map (fun q => q.2.2.2))[k]? = some q.2.2.2 ∧ q.2.2.2.length ≤ 4096 ∧ Q.length < 4096 ∧ (Q.map (fun q => q.2.2.2)).flatten.length ≤ 4096 := by
  have m51 : (51 : Nat) ∈ txs := by decide
  obtain ⟨b1, b2⟩ := txH_le S m51 HQ.2.1
  have hv : (Q.map (fun q => q.2.2.2))[k]? = some q.2.2.2 := by rw [List.getElem?_map, hq]; rfl
  obtain ⟨e1, -⟩ := flat_take hv
  have := congrArg List.length e1
  simp only [List.length_append] at this
  rw [List.length_map] at b1
  exact ⟨hv, by omega, b1, by omega⟩
theorem y_putCharset (hNm : gl_nm G) (hT : (gl_t G)[0]? = some (cI, .int)) {h : hp_T} {σ : rwT} (S : tS cI X h σ) (O : cO X h) {Q : List Prm} (HQ : ctQ σ Q) {k : Nat} {q : Prm} (hq : Q[k]? = some q) (hpc : ¬ 0 < q.2.1) (hlv : q.2.2.2.length ≤ 1600) (H : txH σ 60 [] []) : ct_E G m_ContentType_putCharset [.ref (X + 40), .int (nI k)] h (cr (fun y h' => (∃ st : Nat, y = .int (nI st) ∧ st ≤ q.2.2.2.length ∧ q.2.2.2.drop st = bhOf q) ∧ tP cI X h σ hnR (fun σ' => txH σ' 60 [chL q] []) h')) := by
  have m51 : (51 : Nat) ∈ txs := by decide
  have m60 : (60 : Nat) ∈ txs := by decide
  have m58 : (58 : Nat) ∈ rws := by decide
  have hk := (List.getElem?_eq_some_iff.mp hq).1
  obtain ⟨hv, -, b1, b2⟩ := ctQ_v S HQ hq
  have e58 : rg (σ 58).2.2 (nI k) = bI q.2.2.1 := by
    rw [HQ.2.2.2, rg_at (show (Q.map (fun q => bI q.2.2.1))[k]? = some (bI q.2.2.1) by rw [List.getElem?_map, hq]; rfl) (by omega)]
  -- no charset
  have no : chOf q = none → ∀ f : Int32, ev_E G m_ContentType_putCharset 40 [(0, .ref (X + 40)), (1, .int (nI k)), (2, .int f)] [.int (-1)] h (cr (fun y h' => (∃ st : Nat, y = .int (nI st) ∧ st ≤ q.2.2.2.length ∧ q.2.2.2.drop st = bhOf q) ∧ tP cI X h σ hnR (fun σ' => txH σ' 60 [chL q] []) h')) := by
    intro hc f
    refine ev_istore_n d_ContentType_putCharset_40 rfl (by decide) ?_
    refine ev_iload_n d_ContentType_putCharset_41 rfl rfl ?_
    refine ev_iconst (v := (-1)) d_ContentType_putCharset_42 (by decide) ?_
    refine ev_icmp_eq (tgt := 59) d_ContentType_putCharset_43 (by decide) (fun _ => ?_) (fun z => absurd rfl z)
    refine ev_aload_n d_ContentType_putCharset_59 rfl rfl ?_
    refine ev_get (fa_ContentType_38 rfl rfl) d_ContentType_putCharset_60 O.1 rfl ?_
    refine ev_Vn (ci := 3) [] [] ca_ContentType_putCharset_79 d_ContentType_putCharset_63 rfl ((S.2 60 m60)) rfl (Nat.le_of_ble_eq_true rfl) (y_close hT S m60 H (by decide)) (fun h1 z => ?_)
    obtain ⟨σ1, S1, r1, p1, H1⟩ := z
    refine ev_iload_n d_ContentType_putCharset_66 rfl rfl ?_
    refine ev_iconst (v := (-1)) d_ContentType_putCharset_67 (by decide) ?_
    refine ev_icmp_eq (tgt := 77) d_ContentType_putCharset_68 (by decide) (fun _ => ?_) (fun z => absurd rfl z)
    refine ev_iconst (v := 0) d_ContentType_putCharset_77 (by decide) ?_
    refine ev_iret d_ContentType_putCharset_78 rfl ?_
    refine ⟨_, rfl, ⟨0, rfl, Nat.zero_le _, ?_⟩, σ1, S1, r1, fun τ hτ => p1 τ (fun z => hτ (by simp at z; simp [z])), ?_⟩
    · unfold bhOf; rw [hc]; rfl
    · unfold chL; rw [hc]; exact H1
  have no39 : chOf q = none → ∀ f : Int32, ev_E G m_ContentType_putCharset 39 [(0, .ref (X + 40)), (1, .int (nI k)), (2, .int f)] [] h (cr (fun y h' => (∃ st : Nat, y = .int (nI st) ∧ st ≤ q.2.2.2.length ∧ q.2.2.2.drop st = bhOf q) ∧ tP cI X h σ hnR (fun σ' => txH σ' 60 [chL q] []) h')) := by
    intro hc f
    refine ev_iconst (v := (-1)) d_ContentType_putCharset_39 (by decide) ?_
    exact no hc f
  refine ct_of (ws' := tb_all) rfl rfl (Nat.le_of_ble_eq_true rfl) ?_
  refine ev_aload_n d_ContentType_putCharset_0 rfl rfl ?_
  refine ev_get (fa_ContentType_35 rfl rfl) d_ContentType_putCharset_1 O.1 rfl ?_
  refine ev_iload_n d_ContentType_putCharset_4 rfl rfl ?_
  refine ev_Vv (ci := 1) [.int (nI k)] [] ca_ContentType_putCharset_54 d_ContentType_putCharset_5 rfl ((S.1.1 _ m58).1.1) rfl (Nat.le_of_ble_eq_true rfl) (w_get hT S.1 m58 (nI k)) ?_
  rw [e58]
  refine ev_iconst (v := 1) d_ContentType_putCharset_8 (by decide) ?_
  cases hcd : q.2.2.1 with
  | false =>
    have hc : chOf q = none := by unfold chOf; rw [if_neg (fun z => by rw [hcd] at z; exact absurd z.1 (by decide))]
    refine ev_icmp_ne (tgt := 21) d_ContentType_putCharset_9 (by decide) (fun _ => ?_) (fun z => absurd (show (0 : Int32) = 1 from z) (by decide))
    refine ev_iconst (v := (-1)) d_ContentType_putCharset_21 (by decide) ?_
    refine ev_istore_n d_ContentType_putCharset_22 rfl (by decide) ?_
    refine ev_iload_n d_ContentType_putCharset_23 rfl rfl ?_
    refine ev_iconst (v := (-1)) d_ContentType_putCharset_24 (by decide) ?_
    refine ev_icmp_eq (tgt := 39) d_ContentType_putCharset_25 (by decide) (fun _ => ?_) (fun z => absurd rfl z)
    exact no39 hc (-1)
  | true =>
    have hcc : chOf q = chq q.2.2.2 := by unfold chOf; rw [if_pos ⟨hcd, hpc⟩]
    refine ev_icmp_ne (tgt := 21) d_ContentType_putCharset_9 (by decide) (fun z => absurd rfl z) (fun _ => ?_)
    refine ev_aload_n d_ContentType_putCharset_12 rfl rfl ?_
    refine ev_iload_n d_ContentType_putCharset_13 rfl rfl ?_
    refine ev_iconst (v := 0) d_ContentType_putCharset_14 (by decide) ?_
    refine ev_Vv (ci := 8) [.int (nI k), .int (nI 0)] [] ca_ContentType_putCharset_114 d_ContentType_putCharset_15 rfl (O.1) rfl (Nat.le_of_ble_eq_true rfl) (y_quoteFrom hT S O HQ hq (Nat.zero_le _)) ?_
    rw [List.drop_zero, Nat.zero_add (cnt (neq 39) q.2.2.2)]
    refine ev_goto (tgt := 22) d_ContentType_putCharset_18 (by decide) ?_
    by_cases h1 : cnt (neq 39) q.2.2.2 < q.2.2.2.length
    · rw [if_pos h1]
      refine ev_istore_n d_ContentType_putCharset_22 rfl (by decide) ?_
      refine ev_iload_n d_ContentType_putCharset_23 rfl rfl ?_
      refine ev_iconst (v := (-1)) d_ContentType_putCharset_24 (by decide) ?_
      refine ev_icmp_eq (tgt := 39) d_ContentType_putCharset_25 (by decide) (fun z => absurd z (fun z => nI_pos (n := cnt (neq 39) q.2.2.2) (by omega) (by rw [z]; decide))) (fun _ => ?_)
      refine ev_aload_n d_ContentType_putCharset_28 rfl rfl ?_
      refine ev_iload_n d_ContentType_putCharset_29 rfl rfl ?_
      refine ev_iload_n d_ContentType_putCharset_30 rfl rfl ?_
      refine ev_iconst (v := 1) d_ContentType_putCharset_31 (by decide) ?_
      refine ev_iadd d_ContentType_putCharset_32 ?_
      rw [nI_1]
      refine ev_Vv (ci := 8) [.int (nI k), .int (nI (cnt (neq 39) q.2.2.2 + 1))] [] ca_ContentType_putCharset_114 d_ContentType_putCharset_33 rfl (O.1) rfl (Nat.le_of_ble_eq_true rfl) (y_quoteFrom hT S O HQ hq (by omega)) ?_
      refine ev_goto (tgt := 40) d_ContentType_putCharset_36 (by decide) ?_
      by_cases h2 : cnt (neq 39) q.2.2.2 + 1 + cnt (neq 39) (q.2.2.2.drop (cnt (neq 39) q.2.2.2 + 1)) < q.2.2.2.length
      · rw [if_pos h2]
        have hc : chOf q = some ((q.2.2.2.take (cnt (neq 39) q.2.2.2)).map sp_small, q.2.2.2.drop (cnt (neq 39) q.2.2.2 + 1 + cnt (neq 39) (q.2.2.2.drop (cnt (neq 39) q.2.2.2 + 1)) + 1)) := by
          rw [hcc]; unfold chq; rw [if_pos h2]
        have hne : ¬ nI (cnt (neq 39) q.2.2.2 + 1 + cnt (neq 39) (q.2.2.2.drop (cnt (neq 39) q.2.2.2 + 1))) = -1 := fun z => nI_pos (n := cnt (neq 39) q.2.2.2 + 1 + cnt (neq 39) (q.2.2.2.drop (cnt (neq 39) q.2.2.2 + 1))) (by omega) (by rw [z]; decide)
        refine ev_istore_n d_ContentType_putCharset_40 rfl (by decide) ?_
        refine ev_iload_n d_ContentType_putCharset_41 rfl rfl ?_
        refine ev_iconst (v := (-1)) d_ContentType_putCharset_42 (by decide) ?_
        refine ev_icmp_eq (tgt := 59) d_ContentType_putCharset_43 (by decide) (fun z => absurd z hne) (fun _ => ?_)
        refine ev_aload_n d_ContentType_putCharset_46 rfl rfl ?_
        refine ev_get (fa_ContentType_38 rfl rfl) d_ContentType_putCharset_47 O.1 rfl ?_
        refine ev_aload_n d_ContentType_putCharset_50 rfl rfl ?_
        refine ev_get (fa_ContentType_25 rfl rfl) d_ContentType_putCharset_51 O.1 rfl ?_
        refine ev_iload_n d_ContentType_putCharset_54 rfl rfl ?_
        refine ev_iload_n d_ContentType_putCharset_55 rfl rfl ?_
        refine ev_Vn (ci := 3) [.ref (X + 51), .int (nI k), .int (nI (cnt (neq 39) q.2.2.2))] [] ca_ContentType_putCharset_75 d_ContentType_putCharset_56 rfl ((S.2 60 m60)) rfl (Nat.le_of_ble_eq_true rfl) (y_putSmall hNm hT S m60 m51 (by decide) H HQ.2.1 hv (by rw [List.length_map]; omega) (by omega) (by omega) (by simp; omega)) (fun h1 z => ?_)
        obtain ⟨σ1, S1, r1, p1, H1⟩ := z
        have O1 := cO_go S r1 O
        refine ev_aload_n d_ContentType_putCharset_59 rfl rfl ?_
        refine ev_get (fa_ContentType_38 rfl rfl) d_ContentType_putCharset_60 O1.1 rfl ?_
        refine ev_Vn (ci := 3) [] [] ca_ContentType_putCharset_79 d_ContentType_putCharset_63 rfl ((S1.2 60 m60)) rfl (Nat.le_of_ble_eq_true rfl) (y_close hT S1 m60 H1 (by decide)) (fun h1 z => ?_)
        obtain ⟨σ2, S2, r2, p2, H2⟩ := z
        refine ev_iload_n d_ContentType_putCharset_66 rfl rfl ?_
        refine ev_iconst (v := (-1)) d_ContentType_putCharset_67 (by decide) ?_
        refine ev_icmp_eq (tgt := 77) d_ContentType_putCharset_68 (by decide) (fun z => absurd z hne) (fun _ => ?_)
        refine ev_iload_n d_ContentType_putCharset_71 rfl rfl ?_
        refine ev_iconst (v := 1) d_ContentType_putCharset_72 (by decide) ?_
        refine ev_iadd d_ContentType_putCharset_73 ?_
        rw [nI_1]
        refine ev_goto (tgt := 78) d_ContentType_putCharset_74 (by decide) ?_
        refine ev_iret d_ContentType_putCharset_78 rfl ?_
        refine ⟨_, rfl, ⟨_, rfl, by omega, ?_⟩, σ2, S2, rwR_tr r1 r2, fun τ hτ => (p2 τ (fun z => hτ (by simp at z; simp [z]))).trans (p1 τ (fun z => hτ (by simp at z; simp [z]))), ?_⟩
        · unfold bhOf; rw [hc]
        · unfold chL; rw [hc]; exact H2
      · rw [if_neg h2]
        have hc : chOf q = none := by rw [hcc]; unfold chq; rw [if_neg h2]
        exact no hc _
    · rw [if_neg h1]
      have hc : chOf q = none := by rw [hcc]; unfold chq; rw [if_neg (by omega)]
      refine ev_istore_n d_ContentType_putCharset_22 rfl (by decide) ?_
      refine ev_iload_n d_ContentType_putCharset_23 rfl rfl ?_
      refine ev_iconst (v := (-1)) d_ContentType_putCharset_24 (by decide) ?_
      refine ev_icmp_eq (tgt := 39) d_ContentType_putCharset_25 (by decide) (fun _ => ?_) (fun z => absurd rfl z)
      exact no39 hc (-1)
theorem y_hexadecimal (hNm : gl_nm G) (hT : (gl_t G)[0]? = some (cI, .int)) {h : hp_T} {σ : rwT} (S : tS cI X h σ) (O : cO X h) {Q : List Prm} (HQ : ctQ σ Q) {k : Nat} {q : Prm} (hq : Q[k]? = some q) (a : Nat) : ct_E G m_ContentType_hexadecimal [.ref (X + 40), .int (nI k), .int (nI a)] h (cv (.int (if sp_hex (rg q.2.2.2 (nI a)) = -1 ∨ sp_hex (rg q.2.2.2 (nI (a + 1))) = -1 then -1 else 16 * sp_hex (rg q.2.2.2 (nI a)) + sp_hex (rg q.2.2.2 (nI (a + 1))))) h) := by
  have m51 : (51 : Nat) ∈ txs := by decide
  obtain ⟨hv, -, b1, b2⟩ := ctQ_v S HQ hq
  have eb : ∀ i : Int32, btO (σ (51 + 1)).2.2 (σ (51 + 3)).2.2 (nI k) i = rg q.2.2.2 i := fun i => by
    rw [show (σ (51 + 1)).2.2 = _ from HQ.2.1.1, show (σ (51 + 3)).2.2 = _ from HQ.2.1.2]
    exact btT (by rw [List.length_map]; omega) (by omega) hv i
  refine ct_of (ws' := tb_all) rfl rfl (Nat.le_of_ble_eq_true rfl) ?_
  refine ev_aload_n d_ContentType_hexadecimal_0 rfl rfl ?_
  refine ev_get (fa_ContentType_25 rfl rfl) d_ContentType_hexadecimal_1 O.1 rfl ?_
  refine ev_iload_n d_ContentType_hexadecimal_4 rfl rfl ?_
  refine ev_iload_n d_ContentType_hexadecimal_5 rfl rfl ?_
  refine ev_Vv (ci := 3) [.int (nI k), .int (nI a)] [] ca_ContentType_hexadecimal_82 d_ContentType_hexadecimal_6 rfl ((S.2 51 m51)) rfl (Nat.le_of_ble_eq_true rfl) (w_byteOf hT S m51 (nI k) (nI a)) ?_
  rw [eb]
  refine ev_Sv [.int _] [] ca_ContentType_hexadecimal_123 d_ContentType_hexadecimal_9 rfl (Nat.le_of_ble_eq_true rfl) (w_hexDigit hNm _) ?_
  rw [hxD_hex]
  refine ev_istore_n d_ContentType_hexadecimal_12 rfl (by decide) ?_
  refine ev_aload_n d_ContentType_hexadecimal_13 rfl rfl ?_
  refine ev_get (fa_ContentType_25 rfl rfl) d_ContentType_hexadecimal_14 O.1 rfl ?_
  refine ev_iload_n d_ContentType_hexadecimal_17 rfl rfl ?_
  refine ev_iload_n d_ContentType_hexadecimal_18 rfl rfl ?_
  refine ev_iconst (v := 1) d_ContentType_hexadecimal_19 (by decide) ?_
  refine ev_iadd d_ContentType_hexadecimal_20 ?_
  rw [nI_1]
  refine ev_Vv (ci := 3) [.int (nI k), .int (nI (a + 1))] [] ca_ContentType_hexadecimal_82 d_ContentType_hexadecimal_21 rfl ((S.2 51 m51)) rfl (Nat.le_of_ble_eq_true rfl) (w_byteOf hT S m51 (nI k) (nI (a + 1))) ?_
  rw [eb]
  refine ev_Sv [.int _] [] ca_ContentType_hexadecimal_123 d_ContentType_hexadecimal_24 rfl (Nat.le_of_ble_eq_true rfl) (w_hexDigit hNm _) ?_
  rw [hxD_hex]
  generalize sp_hex (rg q.2.2.2 (nI a)) = hi
  generalize sp_hex (rg q.2.2.2 (nI (a + 1))) = lo
  have no : ev_E G m_ContentType_hexadecimal 40 [(0, .ref (X + 40)), (1, .int (nI k)), (2, .int (nI a)), (3, .int hi), (4, .int lo)] [] h (cv (.int (-1)) h) := by
    refine ev_iconst (v := (-1)) d_ContentType_hexadecimal_40 (by decide) ?_
    refine ev_goto (tgt := 51) d_ContentType_hexadecimal_41 (by decide) ?_
    refine ev_iret d_ContentType_hexadecimal_51 rfl ?_
    exact ⟨rfl, rfl⟩
  refine ev_istore d_ContentType_hexadecimal_27 (by decide) ?_
  refine ev_iload_n d_ContentType_hexadecimal_29 rfl rfl ?_
  refine ev_iconst (v := (-1)) d_ContentType_hexadecimal_30 (by decide) ?_
  by_cases h1 : hi = -1
  · rw [if_pos (Or.inl h1)]
    refine ev_icmp_eq (tgt := 40) d_ContentType_hexadecimal_31 (by decide) (fun _ => ?_) (fun z => absurd h1 z)
    exact no
  · refine ev_icmp_eq (tgt := 40) d_ContentType_hexadecimal_31 (by decide) (fun z => absurd z h1) (fun _ => ?_)
    refine ev_iload d_ContentType_hexadecimal_34 rfl ?_
    refine ev_iconst (v := (-1)) d_ContentType_hexadecimal_36 (by decide) ?_
    by_cases h2 : lo = -1
    · rw [if_pos (Or.inr h2)]
      refine ev_icmp_ne (tgt := 44) d_ContentType_hexadecimal_37 (by decide) (fun z => absurd h2 z) (fun _ => ?_)
      exact no
    · rw [if_neg (fun z => z.elim h1 h2)]
      refine ev_icmp_ne (tgt := 44) d_ContentType_hexadecimal_37 (by decide) (fun _ => ?_) (fun z => absurd z h2)
      refine ev_bipush (v := 16) d_ContentType_hexadecimal_44 (by decide) ?_
      refine ev_iload_n d_ContentType_hexadecimal_46 rfl rfl ?_
      refine ev_imul d_ContentType_hexadecimal_47 ?_
      refine ev_iload d_ContentType_hexadecimal_48 rfl ?_
      refine ev_iadd d_ContentType_hexadecimal_50 ?_
      refine ev_iret d_ContentType_hexadecimal_51 rfl ?_
      exact ⟨rfl, rfl⟩
end HAND2
