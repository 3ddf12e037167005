/-! the class: identities, weak -/
section IDS3
variable {G : gl_G} {cI : ClassId} {X : Nat}
abbrev tW (cI : ClassId) (X : Nat) (h : hp_T) (σ : rwT) (ρs : List Nat) : hp_T → Prop := tP cI X h σ ρs (fun _ => True)
theorem tW_rf {h : hp_T} {σ : rwT} {ρs : List Nat} (S : tS cI X h σ) : tW cI X h σ ρs h := ⟨σ, S, rwR_rf, fun _ _ => rfl, trivial⟩
theorem tW_tr {h h1 h' : hp_T} {σ σ1 : rwT} {ρs : List Nat} {K : rwT → Prop} (r : rwR X h σ h1 σ1) (hs : ∀ τ, τ ∉ ρs → (σ1 τ).2.2 = (σ τ).2.2) (p : tP cI X h1 σ1 ρs K h') : tW cI X h σ ρs h' := tP_tr r hs p (fun _ _ => trivial)
theorem tP_w {h h' : hp_T} {σ : rwT} {ρs ρs' : List Nat} {K : rwT → Prop} (p : tP cI X h σ ρs K h') (hs : ∀ τ ∈ ρs, τ ∈ ρs') : tW cI X h σ ρs' h' := by
  obtain ⟨σ', p1, p2, p3, p4⟩ := p
  exact ⟨σ', p1, p2, fun τ hτ => p3 τ (fun z => hτ (hs τ z)), trivial⟩
theorem l_takeBetween (hNm : gl_nm G) (hT : (gl_t G)[0]? = some (cI, .int)) {u b : Nat} (hu : u ∈ txs) (hb : b < 2 ^ 31) {k x3 : Int32} : ∀ (d i : Nat) (h : hp_T) (σ : rwT), i + d = b → tS cI X h σ → h.2.2 (X + 33) = some (.inr (6, [.ref (X + 34)])) → ev_E G m_Identities_takeBetween 19 [(0, .ref (X + 33)), (1, .ref (X + u)), (2, .int k), (3, .int x3), (4, .int (nI b)), (5, .int (nI i))] [] h (cn (tW cI X h σ [35, 37])) := by
  have m : (34 : Nat) ∈ txs := by decide
  intro d
  induction d with
  | zero =>
    intro i h σ hi S hA
    refine ev_iload d_Identities_takeBetween_19 rfl ?_
    refine ev_iload d_Identities_takeBetween_21 rfl ?_
    refine ev_icmp_ge (tgt := 66) d_Identities_takeBetween_23 (by decide) (fun _ => ?_) (fun z => absurd (nI_le (by omega) (by omega)) z)
    refine ev_aload_n d_Identities_takeBetween_66 rfl rfl ?_
    refine ev_get (fa_Identities_12 rfl rfl) d_Identities_takeBetween_67 hA rfl ?_
    refine ev_Vn (ci := 3) [] [] ca_Identities_takeBetween_44 d_Identities_takeBetween_70 rfl ((S.2 34 m)) rfl (Nat.le_of_ble_eq_true rfl) (w_close hT S m) (fun h1 z => ?_)
    refine ev_vret d_Identities_takeBetween_73 rfl ?_
    exact ⟨rfl, tP_w z (by decide)⟩
  | succ d ih =>
    intro i h σ hi S hA
    have hX := S.1.2.2
    refine ev_iload d_Identities_takeBetween_19 rfl ?_
    refine ev_iload d_Identities_takeBetween_21 rfl ?_
    refine ev_icmp_ge (tgt := 66) d_Identities_takeBetween_23 (by decide) (fun z => absurd z (nI_ge (by omega) (by omega))) (fun _ => ?_)
    refine ev_aload_n d_Identities_takeBetween_26 rfl rfl ?_
    refine ev_iload_n d_Identities_takeBetween_27 rfl rfl ?_
    refine ev_iload d_Identities_takeBetween_28 rfl ?_
    refine ev_Vv (ci := 3) [.int k, .int (nI i)] [] ca_Identities_takeBetween_25 d_Identities_takeBetween_30 rfl ((S.2 u hu)) rfl (Nat.le_of_ble_eq_true rfl) (w_byteOf hT S hu k (nI i)) ?_
    generalize btO (σ (u + 1)).2.2 (σ (u + 3)).2.2 k (nI i) = y
    refine ev_istore d_Identities_takeBetween_33 (by decide) ?_
    refine ev_iload d_Identities_takeBetween_35 rfl ?_
    refine ev_Nv hNm [.int y] [] cn_Identities_takeBetween_33 d_Identities_takeBetween_37 rfl (Nat.le_of_ble_eq_true rfl) (w_isBlank y) ?_
    refine ev_if_eq (tgt := 51) d_Identities_takeBetween_40 (by decide) (fun c_40 => ?_) (fun c_40 => ?_)
    · refine ev_aload_n d_Identities_takeBetween_51 rfl rfl ?_
      refine ev_get (fa_Identities_12 rfl rfl) d_Identities_takeBetween_52 hA rfl ?_
      refine ev_iload d_Identities_takeBetween_55 rfl ?_
      refine ev_Vn (ci := 3) [.int y] [] ca_Identities_takeBetween_40 d_Identities_takeBetween_57 rfl ((S.2 34 m)) rfl (Nat.le_of_ble_eq_true rfl) (w_put hT S m y) (fun h1 z => ?_)
      obtain ⟨σ1, S1, r1, p1, -⟩ := z
      have hA1 := rwR_obj S.1 r1 hA (by omega) (nrow (by decide))
      refine ev_iinc d_Identities_takeBetween_60 rfl (by decide) ?_
      refine ev_goto (tgt := 19) d_Identities_takeBetween_63 (by decide) ?_
      refine ev_as [(0, .ref (X + 33)), (1, .ref (X + u)), (2, .int k), (3, .int x3), (4, .int (nI b)), (5, .int (nI (i + 1)))] ⟨rfl, rfl, rfl, rfl, rfl, ?_, trivial⟩ (ev_to (ih (i + 1) h1 σ1 (by omega) S1 hA1) ?_)
      · show some (Value.int (nI i + Int32.ofInt 1)) = _
        rw [show nI i + Int32.ofInt 1 = nI (i + 1) from nI_1 i]
      · rintro o h' ⟨rfl, p⟩
        exact ⟨rfl, tW_tr r1 (fun τ hτ => p1 τ (fun z => hτ (by simp at z; simp [z]))) p⟩
    · refine ev_aload_n d_Identities_takeBetween_43 rfl rfl ?_
      refine ev_get (fa_Identities_12 rfl rfl) d_Identities_takeBetween_44 hA rfl ?_
      refine ev_Vn (ci := 3) [] [] ca_Identities_takeBetween_37 d_Identities_takeBetween_47 rfl ((S.2 34 m)) rfl (Nat.le_of_ble_eq_true rfl) (w_dropOpen hT S m) (fun h1 z => ?_)
      refine ev_vret d_Identities_takeBetween_50 rfl ?_
      exact ⟨rfl, tP_w z (by decide)⟩
theorem w_takeBetween (hNm : gl_nm G) (hT : (gl_t G)[0]? = some (cI, .int)) {h : hp_T} {σ : rwT} (S : tS cI X h σ) (hA : h.2.2 (X + 33) = some (.inr (6, [.ref (X + 34)]))) {u a b : Nat} (hu : u ∈ txs) (ha : a < 2 ^ 31) (hb : b < 2 ^ 31) (k : Int32) : ct_E G m_Identities_takeBetween [.ref (X + 33), .ref (X + u), .int k, .int (nI a), .int (nI b)] h (cn (tW cI X h σ [35, 37])) := by
  refine ct_of (ws' := tb_all) rfl rfl (Nat.le_of_ble_eq_true rfl) ?_
  refine ev_iload d_Identities_takeBetween_0 rfl ?_
  refine ev_iload_n d_Identities_takeBetween_2 rfl rfl ?_
  refine ev_icmp_le (tgt := 15) d_Identities_takeBetween_3 (by decide) (fun c_3 => ?_) (fun c_3 => ?_)
  · refine ev_vret d_Identities_takeBetween_15 rfl ?_
    exact ⟨rfl, tW_rf S⟩
  · have hlt : a < b := by
      rcases Nat.lt_or_ge a b with q | q
      · exact q
      · exact absurd (nI_le q ha) c_3
    refine ev_iload d_Identities_takeBetween_6 rfl ?_
    refine ev_iload_n d_Identities_takeBetween_8 rfl rfl ?_
    refine ev_isub d_Identities_takeBetween_9 ?_
    refine ev_bipush (v := 100) d_Identities_takeBetween_10 (by decide) ?_
    refine ev_icmp_le (tgt := 16) d_Identities_takeBetween_12 (by decide) (fun c_12 => ?_) (fun c_12 => ?_)
    · refine ev_iload_n d_Identities_takeBetween_16 rfl rfl ?_
      refine ev_istore d_Identities_takeBetween_17 (by decide) ?_
      exact l_takeBetween hNm hT hu hb (b - a) a h σ (by omega) S hA
    · refine ev_vret d_Identities_takeBetween_15 rfl ?_
      exact ⟨rfl, tW_rf S⟩
theorem l_readBytes (hNm : gl_nm G) (hT : (gl_t G)[0]? = some (cI, .int)) {u n : Nat} (hu : u ∈ txs) (hn : n < 2 ^ 31) {k : Int32} : ∀ (d i : Nat) (o : Int32) (h : hp_T) (σ : rwT), i + d = n → (o = -1 ∨ ∃ j, j < i ∧ o = nI j) → tS cI X h σ → h.2.2 (X + 33) = some (.inr (6, [.ref (X + 34)])) → ev_E G m_Identities_readBytes 19 [(0, .ref (X + 33)), (1, .ref (X + u)), (2, .int k), (3, .int (nI n)), (4, .int o), (5, .int (nI i))] [] h (cn (tW cI X h σ [35, 37])) := by
  intro d
  induction d with
  | zero =>
    intro i o h σ hi ho S hA
    refine ev_iload d_Identities_readBytes_19 rfl ?_
    refine ev_iload_n d_Identities_readBytes_21 rfl rfl ?_
    refine ev_icmp_ge (tgt := 88) d_Identities_readBytes_22 (by decide) (fun _ => ?_) (fun z => absurd (nI_le (by omega) (by omega)) z)
    refine ev_vret d_Identities_readBytes_88 rfl ?_
    exact ⟨rfl, tW_rf S⟩
  | succ d ih =>
    intro i o h σ hi ho S hA
    have hX := S.1.2.2
    -- on at 82
    have on : ∀ (o' y : Int32) (h2 : hp_T) (σ2 : rwT), (o' = -1 ∨ ∃ j, j < i + 1 ∧ o' = nI j) → tS cI X h2 σ2 → h2.2.2 (X + 33) = some (.inr (6, [.ref (X + 34)])) → rwR X h σ h2 σ2 → (∀ τ, τ ∉ [35, 37] → (σ2 τ).2.2 = (σ τ).2.2) → ev_E G m_Identities_readBytes 82 [(0, .ref (X + 33)), (1, .ref (X + u)), (2, .int k), (3, .int (nI n)), (4, .int o'), (5, .int (nI i)), (6, .int y)] [] h2 (cn (tW cI X h σ [35, 37])) := by
      intro o' y h2 σ2 ho' S2 hA2 r2 p2
      refine ev_iinc d_Identities_readBytes_82 rfl (by decide) ?_
      refine ev_goto (tgt := 19) d_Identities_readBytes_85 (by decide) ?_
      refine ev_as [(0, .ref (X + 33)), (1, .ref (X + u)), (2, .int k), (3, .int (nI n)), (4, .int o'), (5, .int (nI (i + 1)))] ⟨rfl, rfl, rfl, rfl, rfl, ?_, trivial⟩ (ev_to (ih (i + 1) o' h2 σ2 (by omega) ho' S2 hA2) ?_)
      · show some (Value.int (nI i + Int32.ofInt 1)) = _
        rw [show nI i + Int32.ofInt 1 = nI (i + 1) from nI_1 i]
      · rintro oo h' ⟨rfl, p⟩
        exact ⟨rfl, tW_tr r2 p2 p⟩
    have ho1 : o = -1 ∨ ∃ j, j < i + 1 ∧ o = nI j := ho.imp id (fun ⟨j, j1, j2⟩ => ⟨j, by omega, j2⟩)
    refine ev_iload d_Identities_readBytes_19 rfl ?_
    refine ev_iload_n d_Identities_readBytes_21 rfl rfl ?_
    refine ev_icmp_ge (tgt := 88) d_Identities_readBytes_22 (by decide) (fun z => absurd z (nI_ge (by omega) (by omega))) (fun _ => ?_)
    refine ev_aload_n d_Identities_readBytes_25 rfl rfl ?_
    refine ev_iload_n d_Identities_readBytes_26 rfl rfl ?_
    refine ev_iload d_Identities_readBytes_27 rfl ?_
    refine ev_Vv (ci := 3) [.int k, .int (nI i)] [] ca_Identities_readBytes_25 d_Identities_readBytes_29 rfl ((S.2 u hu)) rfl (Nat.le_of_ble_eq_true rfl) (w_byteOf hT S hu k (nI i)) ?_
    generalize btO (σ (u + 1)).2.2 (σ (u + 3)).2.2 k (nI i) = y
    refine ev_istore d_Identities_readBytes_32 (by decide) ?_
    refine ev_iload d_Identities_readBytes_34 rfl ?_
    refine ev_iconst (v := (-1)) d_Identities_readBytes_36 (by decide) ?_
    have a54 : ev_E G m_Identities_readBytes 54 [(0, .ref (X + 33)), (1, .ref (X + u)), (2, .int k), (3, .int (nI n)), (4, .int o), (5, .int (nI i)), (6, .int y)] [] h (cn (tW cI X h σ [35, 37])) := by
      refine ev_iload d_Identities_readBytes_54 rfl ?_
      refine ev_iconst (v := (-1)) d_Identities_readBytes_56 (by decide) ?_
      refine ev_icmp_eq (tgt := 82) d_Identities_readBytes_57 (by decide) (fun c_57 => ?_) (fun c_57 => ?_)
      · exact on o y h σ ho1 S hA rwR_rf (fun _ _ => rfl)
      · refine ev_iload d_Identities_readBytes_60 rfl ?_
        refine ev_bipush (v := 62) d_Identities_readBytes_62 (by decide) ?_
        refine ev_icmp_ne (tgt := 82) d_Identities_readBytes_64 (by decide) (fun c_64 => ?_) (fun c_64 => ?_)
        · exact on o y h σ ho1 S hA rwR_rf (fun _ _ => rfl)
        · obtain ⟨j, j1, rfl⟩ := ho.resolve_left c_57
          refine ev_aload_n d_Identities_readBytes_67 rfl rfl ?_
          refine ev_aload_n d_Identities_readBytes_68 rfl rfl ?_
          refine ev_iload_n d_Identities_readBytes_69 rfl rfl ?_
          refine ev_iload d_Identities_readBytes_70 rfl ?_
          refine ev_iconst (v := 1) d_Identities_readBytes_72 (by decide) ?_
          refine ev_iadd d_Identities_readBytes_73 ?_
          rw [nI_1]
          refine ev_iload d_Identities_readBytes_74 rfl ?_
          refine ev_Vn (ci := 6) [.ref (X + u), .int k, .int (nI (j + 1)), .int (nI i)] [] ca_Identities_readBytes_29 d_Identities_readBytes_76 rfl (hA) rfl (Nat.le_of_ble_eq_true rfl) (w_takeBetween hNm hT S hA hu (by omega) (by omega) k) (fun h1 z => ?_)
          obtain ⟨σ1, S1, r1, p1, -⟩ := z
          have hA1 := rwR_obj S.1 r1 hA (by omega) (nrow (by decide))
          refine ev_iconst (v := (-1)) d_Identities_readBytes_79 (by decide) ?_
          refine ev_istore d_Identities_readBytes_80 (by decide) ?_
          exact on (-1) y h1 σ1 (Or.inl rfl) S1 hA1 r1 p1
    refine ev_icmp_ne (tgt := 54) d_Identities_readBytes_37 (by decide) (fun c_37 => ?_) (fun c_37 => ?_)
    · exact a54
    · refine ev_iload d_Identities_readBytes_40 rfl ?_
      refine ev_bipush (v := 60) d_Identities_readBytes_42 (by decide) ?_
      refine ev_icmp_ne (tgt := 54) d_Identities_readBytes_44 (by decide) (fun c_44 => ?_) (fun c_44 => ?_)
      · exact a54
      · refine ev_iload d_Identities_readBytes_47 rfl ?_
        refine ev_istore d_Identities_readBytes_49 (by decide) ?_
        refine ev_goto (tgt := 82) d_Identities_readBytes_51 (by decide) ?_
        exact on (nI i) y h σ (Or.inr ⟨i, Nat.lt_succ_self i, rfl⟩) S hA rwR_rf (fun _ _ => rfl)
theorem w_readBytes (hNm : gl_nm G) (hT : (gl_t G)[0]? = some (cI, .int)) {h : hp_T} {σ : rwT} (S : tS cI X h σ) (hA : h.2.2 (X + 33) = some (.inr (6, [.ref (X + 34)]))) {u : Nat} (hu : u ∈ txs) (k : Int32) : ct_E G m_Identities_readBytes [.ref (X + 33), .ref (X + u), .int k] h (cn (tW cI X h σ [35, 37])) := by
  have m : (34 : Nat) ∈ txs := by decide
  have hX := S.1.2.2
  refine ct_of (ws' := tb_all) rfl rfl (Nat.le_of_ble_eq_true rfl) ?_
  refine ev_aload_n d_Identities_readBytes_0 rfl rfl ?_
  refine ev_get (fa_Identities_12 rfl rfl) d_Identities_readBytes_1 hA rfl ?_
  refine ev_Vn (ci := 3) [] [] ca_Identities_readBytes_18 d_Identities_readBytes_4 rfl ((S.2 34 m)) rfl (Nat.le_of_ble_eq_true rfl) (w_clear S m) (fun h1 z => ?_)
  obtain ⟨σ1, S1, r1, p1, -⟩ := z
  have hA1 := rwR_obj S.1 r1 hA (by omega) (nrow (by decide))
  refine ev_aload_n d_Identities_readBytes_7 rfl rfl ?_
  refine ev_iload_n d_Identities_readBytes_8 rfl rfl ?_
  refine ev_Vv (ci := 3) [.int k] [] ca_Identities_readBytes_21 d_Identities_readBytes_9 rfl ((S1.2 u hu)) rfl (Nat.le_of_ble_eq_true rfl) (w_sizeOf hT S1 hu k) ?_
  generalize szO (σ1 (u + 3)).2.2 k = sz
  refine ev_istore_n d_Identities_readBytes_12 rfl (by decide) ?_
  refine ev_iconst (v := (-1)) d_Identities_readBytes_13 (by decide) ?_
  refine ev_istore d_Identities_readBytes_14 (by decide) ?_
  refine ev_iconst (v := 0) d_Identities_readBytes_16 (by decide) ?_
  refine ev_istore d_Identities_readBytes_17 (by decide) ?_
  by_cases h0 : sz < 0
  · refine ev_iload d_Identities_readBytes_19 rfl ?_
    refine ev_iload_n d_Identities_readBytes_21 rfl rfl ?_
    refine ev_icmp_ge (tgt := 88) d_Identities_readBytes_22 (by decide) (fun _ => ?_) (fun z => absurd (Int32.le_of_lt h0) z)
    refine ev_vret d_Identities_readBytes_88 rfl ?_
    exact ⟨rfl, tW_tr r1 p1 (tW_rf S1)⟩
  · obtain ⟨n, hn, rfl⟩ := nI_of h0
    refine ev_to (l_readBytes hNm hT hu hn n 0 (-1) h1 σ1 (by omega) (Or.inl rfl) S1 hA1) ?_
    rintro o h' ⟨rfl, p⟩
    exact ⟨rfl, tW_tr r1 p1 p⟩
end IDS3
