section ADR7
variable {G : gl_G} {cI : ClassId} {X : Nat}
theorem sub1 {ρ : Nat} {l : List Nat} {σ σ1 : rwT} (p : ∀ τ, τ ∉ [ρ] → (σ1 τ).2.2 = (σ τ).2.2) (hρ : ρ ∈ l) : ∀ τ, τ ∉ l → (σ1 τ).2.2 = (σ τ).2.2 := fun τ hτ => p τ (fun z => hτ (by rw [List.mem_singleton.mp z]; exact hρ))
theorem subL {l1 l : List Nat} {σ σ1 : rwT} (p : ∀ τ, τ ∉ l1 → (σ1 τ).2.2 = (σ τ).2.2) (hl : ∀ τ ∈ l1, τ ∈ l) : ∀ τ, τ ∉ l → (σ1 τ).2.2 = (σ τ).2.2 := fun τ hτ => p τ (fun z => hτ (hl τ z))
theorem l_putName (hT : (gl_t G)[0]? = some (cI, .int)) {t : Nat} (ht : t ∈ txs) {e : Int32} : ∀ (d : Nat) (i : Int32) (h : hp_T) (σ : rwT), (e.toInt - i.toInt).toNat = d → tS cI X h σ → aO X h → ev_E G m_Addresses_putName 2 [(0, .ref (X + 18)), (1, .ref (X + t)), (2, .int e), (3, .int i)] [] h (cn (tW cI X h σ [t + 1])) := by
  have m11 : (11 : Nat) ∈ txs := by decide
  have m31 : (31 : Nat) ∈ rws := by decide
  intro d
  induction d using Nat.strongRecOn with
  | ind d ih =>
    intro i h σ hd S O
    obtain ⟨⟨a, b, c, hA⟩, r, hW⟩ := id O
    refine ev_iload_n d_Addresses_putName_2 rfl rfl ?_
    refine ev_iload_n d_Addresses_putName_3 rfl rfl ?_
    refine ev_icmp_ge (tgt := 52) d_Addresses_putName_4 (by decide) (fun c_4 => ?_) (fun c_4 => ?_)
    · refine ev_vret d_Addresses_putName_52 rfl ?_
      exact ⟨rfl, tW_rf S⟩
    · have e1 := i32_s c_4
      have e2 := i32_lt c_4
      have a27 : ∀ (h2 : hp_T) (σ2 : rwT), tS cI X h2 σ2 → aO X h2 → rwR X h σ h2 σ2 → (∀ τ, τ ∉ [t + 1] → (σ2 τ).2.2 = (σ τ).2.2) → ev_E G m_Addresses_putName 27 [(0, .ref (X + 18)), (1, .ref (X + t)), (2, .int e), (3, .int i)] [] h2 (cn (tW cI X h σ [t + 1])) := by
        intro h2 σ2 S2 O2 r2 p2
        obtain ⟨⟨a, b, c, hA2⟩, r, hW2⟩ := id O2
        refine ev_aload_n d_Addresses_putName_27 rfl rfl ?_
        refine ev_aload_n d_Addresses_putName_28 rfl rfl ?_
        refine ev_get (fa_Addresses_9 rfl rfl) d_Addresses_putName_29 hA2 rfl ?_
        refine ev_Vv (ci := 4) [] [.ref (X + t)] ca_Addresses_putName_115 d_Addresses_putName_32 rfl (hW2) rfl (Nat.le_of_ble_eq_true rfl) (w_wtexts hW2) ?_
        refine ev_aload_n d_Addresses_putName_35 rfl rfl ?_
        refine ev_get (fa_Addresses_32 rfl rfl) d_Addresses_putName_36 hA2 rfl ?_
        refine ev_iload_n d_Addresses_putName_39 rfl rfl ?_
        refine ev_Vv (ci := 1) [.int i] [.ref (X + 11), .ref (X + t)] ca_Addresses_putName_49 d_Addresses_putName_40 rfl ((S2.1.1 _ m31).1.1) rfl (Nat.le_of_ble_eq_true rfl) (w_get hT S2.1 m31 i) ?_
        refine ev_Vn (ci := 3) [.ref (X + 11), .int _] [] ca_Addresses_putName_118 d_Addresses_putName_43 rfl ((S2.2 t ht)) rfl (Nat.le_of_ble_eq_true rfl) (w_putText hT S2 ht m11 _) (fun h1 z => ?_)
        obtain ⟨σ3, S3, r3, p3, -⟩ := z
        refine ev_iinc d_Addresses_putName_46 rfl (by decide) ?_
        refine ev_goto (tgt := 2) d_Addresses_putName_49 (by decide) ?_
        refine ev_to (ih _ (by rw [e1]; omega) (i + 1) h1 σ3 rfl S3 (aO_go S2 r3 O2)) ?_
        rintro o h' ⟨rfl, p⟩
        exact ⟨rfl, tW_tr (rwR_tr r2 r3) (fun τ hτ => (p3 τ hτ).trans (p2 τ hτ)) p⟩
      refine ev_iload_n d_Addresses_putName_7 rfl rfl ?_
      refine ev_if_le (tgt := 27) d_Addresses_putName_8 (by decide) (fun c_8 => ?_) (fun c_8 => ?_)
      · exact a27 h σ S O rwR_rf (fun _ _ => rfl)
      · refine ev_aload_n d_Addresses_putName_11 rfl rfl ?_
        refine ev_iload_n d_Addresses_putName_12 rfl rfl ?_
        refine ev_Vr (ci := 5) [.int i] [] ca_Addresses_putName_100 d_Addresses_putName_13 rfl (hA) rfl (Nat.le_of_ble_eq_true rfl) (w_kindAt hT S O i) (fun v h1 z => ?_)
        obtain ⟨⟨q, rfl⟩, z⟩ := z
        obtain rfl := z.symm
        refine ev_bipush (v := 46) d_Addresses_putName_16 (by decide) ?_
        refine ev_icmp_eq (tgt := 27) d_Addresses_putName_18 (by decide) (fun c_18 => ?_) (fun c_18 => ?_)
        · exact a27 h σ S O rwR_rf (fun _ _ => rfl)
        · refine ev_aload_n d_Addresses_putName_21 rfl rfl ?_
          refine ev_bipush (v := 32) d_Addresses_putName_22 (by decide) ?_
          refine ev_Vn (ci := 3) [.int 32] [] ca_Addresses_putName_125 d_Addresses_putName_24 rfl ((S.2 t ht)) rfl (Nat.le_of_ble_eq_true rfl) (w_put hT S ht 32) (fun h1 z => ?_)
          obtain ⟨σ2, S2, r2, p2, -⟩ := z
          exact a27 h1 σ2 S2 (aO_go S r2 O) r2 p2
theorem w_putName (hT : (gl_t G)[0]? = some (cI, .int)) {h : hp_T} {σ : rwT} (S : tS cI X h σ) (O : aO X h) {t : Nat} (ht : t ∈ txs) (e : Int32) : ct_E G m_Addresses_putName [.ref (X + 18), .ref (X + t), .int e] h (cn (tW cI X h σ [t + 1])) := by
  refine ct_of (ws' := tb_all) rfl rfl (Nat.le_of_ble_eq_true rfl) ?_
  refine ev_iconst (v := 0) d_Addresses_putName_0 (by decide) ?_
  refine ev_istore_n d_Addresses_putName_1 rfl (by decide) ?_
  exact l_putName hT ht _ _ h σ rfl S O
theorem l_putWords (hT : (gl_t G)[0]? = some (cI, .int)) {f e : Int32} : ∀ (d : Nat) (i : Int32) (h : hp_T) (σ : rwT), (e.toInt - i.toInt).toNat = d → tS cI X h σ → aO X h → ev_E G m_Addresses_putWords 2 [(0, .ref (X + 18)), (1, .int f), (2, .int e), (3, .int i)] [] h (cn (tW cI X h σ adR)) := by
  have m11 : (11 : Nat) ∈ txs := by decide
  have m19 : (19 : Nat) ∈ txs := by decide
  have m31 : (31 : Nat) ∈ rws := by decide
  intro d
  induction d using Nat.strongRecOn with
  | ind d ih =>
    intro i h σ hd S O
    obtain ⟨⟨a, b, c, hA⟩, r, hW⟩ := id O
    refine ev_iload_n d_Addresses_putWords_2 rfl rfl ?_
    refine ev_iload_n d_Addresses_putWords_3 rfl rfl ?_
    refine ev_icmp_ge (tgt := 79) d_Addresses_putWords_4 (by decide) (fun c_4 => ?_) (fun c_4 => ?_)
    · refine ev_aload_n d_Addresses_putWords_79 rfl rfl ?_
      refine ev_get (fa_Addresses_18 rfl rfl) d_Addresses_putWords_80 hA rfl ?_
      refine ev_Vn (ci := 3) [] [] ca_Addresses_putWords_94 d_Addresses_putWords_83 rfl ((S.2 19 m19)) rfl (Nat.le_of_ble_eq_true rfl) (w_close hT S m19) (fun h1 z => ?_)
      refine ev_vret d_Addresses_putWords_86 rfl ?_
      exact ⟨rfl, tP_w ‹_› (by decide)⟩
    · have e1 := i32_s c_4
      have e2 := i32_lt c_4
      have a73 : ∀ (l : Int32) (h2 : hp_T) (σ2 : rwT), tS cI X h2 σ2 → aO X h2 → rwR X h σ h2 σ2 → (∀ τ, τ ∉ adR → (σ2 τ).2.2 = (σ τ).2.2) → ev_E G m_Addresses_putWords 73 [(0, .ref (X + 18)), (1, .int f), (2, .int e), (3, .int i), (4, .int l)] [] h2 (cn (tW cI X h σ adR)) := by
        intro l h2 σ2 S2 O2 r2 p2
        refine ev_iinc d_Addresses_putWords_73 rfl (by decide) ?_
        refine ev_goto (tgt := 2) d_Addresses_putWords_76 (by decide) ?_
        refine ev_as [(0, .ref (X + 18)), (1, .int f), (2, .int e), (3, .int (i + 1))] ⟨rfl, rfl, rfl, rfl, trivial⟩ (ev_to (ih _ (by rw [e1]; omega) (i + 1) h2 σ2 rfl S2 O2) ?_)
        rintro o h' ⟨rfl, p⟩
        exact ⟨rfl, tW_tr r2 p2 p⟩
      have a37 : ∀ (l : Int32) (h2 : hp_T) (σ2 : rwT), tS cI X h2 σ2 → aO X h2 → rwR X h σ h2 σ2 → (∀ τ, τ ∉ adR → (σ2 τ).2.2 = (σ τ).2.2) → ev_E G m_Addresses_putWords 37 [(0, .ref (X + 18)), (1, .int f), (2, .int e), (3, .int i), (4, .int l)] [] h2 (cn (tW cI X h σ adR)) := by
        intro l h2 σ2 S2 O2 r2 p2
        obtain ⟨⟨a, b, c, hA2⟩, r, hW2⟩ := id O2
        refine ev_aload_n d_Addresses_putWords_37 rfl rfl ?_
        refine ev_get (fa_Addresses_18 rfl rfl) d_Addresses_putWords_38 hA2 rfl ?_
        refine ev_aload_n d_Addresses_putWords_41 rfl rfl ?_
        refine ev_get (fa_Addresses_9 rfl rfl) d_Addresses_putWords_42 hA2 rfl ?_
        refine ev_Vv (ci := 4) [] [.ref (X + 19)] ca_Addresses_putWords_115 d_Addresses_putWords_45 rfl (hW2) rfl (Nat.le_of_ble_eq_true rfl) (w_wtexts hW2) ?_
        refine ev_aload_n d_Addresses_putWords_48 rfl rfl ?_
        refine ev_get (fa_Addresses_32 rfl rfl) d_Addresses_putWords_49 hA2 rfl ?_
        refine ev_iload_n d_Addresses_putWords_52 rfl rfl ?_
        refine ev_Vv (ci := 1) [.int i] [.ref (X + 11), .ref (X + 19)] ca_Addresses_putWords_49 d_Addresses_putWords_53 rfl ((S2.1.1 _ m31).1.1) rfl (Nat.le_of_ble_eq_true rfl) (w_get hT S2.1 m31 i) ?_
        refine ev_Vn (ci := 3) [.ref (X + 11), .int _] [] ca_Addresses_putWords_118 d_Addresses_putWords_56 rfl ((S2.2 19 m19)) rfl (Nat.le_of_ble_eq_true rfl) (w_putText hT S2 m19 m11 _) (fun h1 z => ?_)
        obtain ⟨σ3, S3, r3, p3, -⟩ := z
        have O3 := aO_go S2 r3 O2
        obtain ⟨⟨a, b, c, hA3⟩, r, hW3⟩ := id O3
        have q3 : ∀ τ, τ ∉ adR → (σ3 τ).2.2 = (σ τ).2.2 := fun τ hτ => (sub1 p3 (by decide) τ hτ).trans (p2 τ hτ)
        refine ev_iload d_Addresses_putWords_59 rfl ?_
        refine ev_if_eq (tgt := 73) d_Addresses_putWords_61 (by decide) (fun c_61 => ?_) (fun c_61 => ?_)
        · exact a73 l _ σ3 S3 O3 (rwR_tr r2 r3) q3
        · refine ev_aload_n d_Addresses_putWords_64 rfl rfl ?_
          refine ev_get (fa_Addresses_18 rfl rfl) d_Addresses_putWords_65 hA3 rfl ?_
          refine ev_bipush (v := 93) d_Addresses_putWords_68 (by decide) ?_
          refine ev_Vn (ci := 3) [.int 93] [] ca_Addresses_putWords_125 d_Addresses_putWords_70 rfl ((S3.2 19 m19)) rfl (Nat.le_of_ble_eq_true rfl) (w_put hT S3 m19 93) (fun h1 z => ?_)
          obtain ⟨σ4, S4, r4, p4, -⟩ := z
          exact a73 l _ σ4 S4 (aO_go S3 r4 O3) (rwR_tr (rwR_tr r2 r3) r4) (fun τ hτ => (sub1 p4 (by decide) τ hτ).trans (q3 τ hτ))
      have a23 : ∀ l : Int32, ev_E G m_Addresses_putWords 21 [(0, .ref (X + 18)), (1, .int f), (2, .int e), (3, .int i)] [.int l] h (cn (tW cI X h σ adR)) := by
        intro l
        refine ev_istore d_Addresses_putWords_21 (by decide) ?_
        refine ev_iload d_Addresses_putWords_23 rfl ?_
        refine ev_if_eq (tgt := 37) d_Addresses_putWords_25 (by decide) (fun c_25 => ?_) (fun c_25 => ?_)
        · exact a37 l h σ S O rwR_rf (fun _ _ => rfl)
        · refine ev_aload_n d_Addresses_putWords_28 rfl rfl ?_
          refine ev_get (fa_Addresses_18 rfl rfl) d_Addresses_putWords_29 hA rfl ?_
          refine ev_bipush (v := 91) d_Addresses_putWords_32 (by decide) ?_
          refine ev_Vn (ci := 3) [.int 91] [] ca_Addresses_putWords_125 d_Addresses_putWords_34 rfl ((S.2 19 m19)) rfl (Nat.le_of_ble_eq_true rfl) (w_put hT S m19 91) (fun h1 z => ?_)
          obtain ⟨σ2, S2, r2, p2, -⟩ := z
          exact a37 l h1 σ2 S2 (aO_go S r2 O) r2 (sub1 p2 (by decide))
      refine ev_aload_n d_Addresses_putWords_7 rfl rfl ?_
      refine ev_iload_n d_Addresses_putWords_8 rfl rfl ?_
      refine ev_Vr (ci := 5) [.int i] [] ca_Addresses_putWords_100 d_Addresses_putWords_9 rfl (hA) rfl (Nat.le_of_ble_eq_true rfl) (w_kindAt hT S O i) (fun v h1 z => ?_)
      obtain ⟨⟨q, rfl⟩, z⟩ := z
      obtain rfl := z.symm
      refine ev_iconst (v := 3) d_Addresses_putWords_12 (by decide) ?_
      refine ev_icmp_ne (tgt := 20) d_Addresses_putWords_13 (by decide) (fun c_13 => ?_) (fun c_13 => ?_)
      · refine ev_iconst (v := 0) d_Addresses_putWords_20 (by decide) ?_
        exact a23 0
      · refine ev_iconst (v := 1) d_Addresses_putWords_16 (by decide) ?_
        refine ev_goto (tgt := 21) d_Addresses_putWords_17 (by decide) ?_
        exact a23 1
theorem w_putWords (hT : (gl_t G)[0]? = some (cI, .int)) {h : hp_T} {σ : rwT} (S : tS cI X h σ) (O : aO X h) (f e : Int32) : ct_E G m_Addresses_putWords [.ref (X + 18), .int f, .int e] h (cn (tW cI X h σ adR)) := by
  refine ct_of (ws' := tb_all) rfl rfl (Nat.le_of_ble_eq_true rfl) ?_
  refine ev_iload_n d_Addresses_putWords_0 rfl rfl ?_
  refine ev_istore_n d_Addresses_putWords_1 rfl (by decide) ?_
  exact l_putWords hT _ _ h σ rfl S O
theorem w_beginGathering {h : hp_T} {σ : rwT} (S : tS cI X h σ) (O : aO X h) : ct_E G m_Addresses_beginGathering [.ref (X + 18)] h (cn (aP cI X h σ)) := by
  have m31 : (31 : Nat) ∈ rws := by decide
  obtain ⟨⟨a, b, c, hA⟩, r, hW⟩ := id O
  refine ct_of (ws' := tb_all) rfl rfl (Nat.le_of_ble_eq_true rfl) ?_
  refine ev_aload_n d_Addresses_beginGathering_0 rfl rfl ?_
  refine ev_get (fa_Addresses_32 rfl rfl) d_Addresses_beginGathering_1 hA rfl ?_
  refine ev_iconst (v := 0) d_Addresses_beginGathering_4 (by decide) ?_
  refine ev_Vn (ci := 1) [.int 0] [] ca_Addresses_beginGathering_59 d_Addresses_beginGathering_5 rfl ((S.1.1 _ m31).1.1) rfl (Nat.le_of_ble_eq_true rfl) (w_rcut S m31 0) (fun h1 z => ?_)
  obtain ⟨σ1, S1, r1, p1, -⟩ := z
  have O1 := aO_go S r1 O
  obtain ⟨⟨a, b, c, hA1⟩, r, hW1⟩ := id O1
  refine ev_aload_n d_Addresses_beginGathering_8 rfl rfl ?_
  refine ev_iconst (v := (-1)) d_Addresses_beginGathering_9 (by decide) ?_
  refine ev_put (fp_Addresses_42 rfl rfl) d_Addresses_beginGathering_10 hA1 (Nat.le_of_ble_eq_true rfl) rfl rfl ?_
  refine ev_vret d_Addresses_beginGathering_13 rfl ?_
  exact ⟨rfl, aO_up O1 a b (-1), σ1, aS_up S1 O1 a b (-1), kR_tr (kR_of r1) (kR_up (by simp)), sub1 p1 (by decide)⟩
theorem w_atakeColon (hT : (gl_t G)[0]? = some (cI, .int)) {h : hp_T} {σ : rwT} (S : tS cI X h σ) (O : aO X h) : ct_E G m_Addresses_takeColon [.ref (X + 18)] h (cn (aP cI X h σ)) := by
  have m31 : (31 : Nat) ∈ rws := by decide
  have m26 : (26 : Nat) ∈ txs := by decide
  obtain ⟨⟨a, b, c, hA⟩, r, hW⟩ := id O
  have a72 : ∀ (h2 : hp_T) (σ2 : rwT), tS cI X h2 σ2 → aO X h2 → kR [X + 18] X h σ h2 σ2 → (∀ τ, τ ∉ adR → (σ2 τ).2.2 = (σ τ).2.2) → ev_E G m_Addresses_takeColon 72 [(0, .ref (X + 18))] [] h2 (cn (aP cI X h σ)) := by
    intro h2 σ2 S2 O2 r2 p2
    obtain ⟨⟨a, b, c, hA2⟩, r, hW2⟩ := id O2
    refine ev_aload_n d_Addresses_takeColon_72 rfl rfl ?_
    refine ev_get (fa_Addresses_29 rfl rfl) d_Addresses_takeColon_73 hA2 rfl ?_
    refine ev_Vn (ci := 3) [] [] ca_Addresses_takeColon_94 d_Addresses_takeColon_76 rfl ((S2.2 26 m26)) rfl (Nat.le_of_ble_eq_true rfl) (w_close hT S2 m26) (fun h1 z => ?_)
    refine ev_vret d_Addresses_takeColon_79 rfl ?_
    exact ⟨rfl, aP_mk r2 p2 (aP_w S2 O2 ‹_› (by decide))⟩
  refine ct_of (ws' := tb_all) rfl rfl (Nat.le_of_ble_eq_true rfl) ?_
  refine ev_aload_n d_Addresses_takeColon_0 rfl rfl ?_
  refine ev_get (fa_Addresses_39 rfl rfl) d_Addresses_takeColon_1 hA rfl ?_
  refine ev_iconst (v := (-1)) d_Addresses_takeColon_4 (by decide) ?_
  refine ev_icmp_eq (tgt := 19) d_Addresses_takeColon_5 (by decide) (fun c_5 => ?_) (fun c_5 => ?_)
  · refine ev_aload_n d_Addresses_takeColon_19 rfl rfl ?_
    refine ev_aload_n d_Addresses_takeColon_20 rfl rfl ?_
    refine ev_get (fa_Addresses_29 rfl rfl) d_Addresses_takeColon_21 hA rfl ?_
    refine ev_Vv (ci := 3) [] [.ref (X + 18)] ca_Addresses_takeColon_85 d_Addresses_takeColon_24 rfl ((S.2 26 m26)) rfl (Nat.le_of_ble_eq_true rfl) (c_Texts_count (tS_tx S m26)) ?_
    generalize nI (σ (26 + 3)).2.2.length - 1 = g
    refine ev_put (fp_Addresses_39 rfl rfl) d_Addresses_takeColon_27 hA (Nat.le_of_ble_eq_true rfl) rfl rfl ?_
    show ev_E G m_Addresses_takeColon 30 _ _ (hp_up h (X + 18) (.inr (adO X a g c))) _
    have S2 := aS_up S O a g c
    have O2 := aO_up O a g c
    have r2 : kR [X + 18] X h σ (hp_up h (X + 18) (.inr (adO X a g c))) σ := kR_up (by simp)
    generalize hp_up h (X + 18) (.inr (adO X a g c)) = h2 at S2 O2 r2 ⊢
    obtain ⟨⟨a, b, c, hA2⟩, r, hW2⟩ := id O2
    refine ev_aload_n d_Addresses_takeColon_30 rfl rfl ?_
    refine ev_aload_n d_Addresses_takeColon_31 rfl rfl ?_
    refine ev_get (fa_Addresses_32 rfl rfl) d_Addresses_takeColon_32 hA2 rfl ?_
    refine ev_Vv (ci := 1) [] [.ref (X + 18)] ca_Addresses_takeColon_45 d_Addresses_takeColon_35 rfl ((S2.1.1 _ m31).1.1) rfl (Nat.le_of_ble_eq_true rfl) (w_size S2.1 m31) ?_
    refine ev_Vr (ci := 5) [.int _] [] ca_Addresses_takeColon_86 d_Addresses_takeColon_38 rfl (hA2) rfl (Nat.le_of_ble_eq_true rfl) (w_isName hT S2 O2 _) (fun v h1 z => ?_)
    obtain ⟨⟨q, rfl⟩, z⟩ := z
    obtain rfl := z.symm
    refine ev_if_eq (tgt := 62) d_Addresses_takeColon_41 (by decide) (fun c_41 => ?_) (fun c_41 => ?_)
    · refine ev_aload_n d_Addresses_takeColon_62 rfl rfl ?_
      refine ev_dup d_Addresses_takeColon_63 rfl ?_
      refine ev_get (fa_Addresses_35 rfl rfl) d_Addresses_takeColon_64 hA2 rfl ?_
      refine ev_iconst (v := 1) d_Addresses_takeColon_67 (by decide) ?_
      refine ev_iadd d_Addresses_takeColon_68 ?_
      refine ev_put (fp_Addresses_35 rfl rfl) d_Addresses_takeColon_69 hA2 (Nat.le_of_ble_eq_true rfl) rfl rfl ?_
      show ev_E G m_Addresses_takeColon 72 _ _ (hp_up _ (X + 18) (.inr (adO X (a + 1) b c))) _
      exact a72 _ σ (aS_up S2 O2 _ _ _) (aO_up O2 _ _ _) (kR_tr r2 (kR_up (by simp))) (fun _ _ => rfl)
    · refine ev_aload_n d_Addresses_takeColon_44 rfl rfl ?_
      refine ev_aload_n d_Addresses_takeColon_45 rfl rfl ?_
      refine ev_get (fa_Addresses_29 rfl rfl) d_Addresses_takeColon_46 hA2 rfl ?_
      refine ev_aload_n d_Addresses_takeColon_49 rfl rfl ?_
      refine ev_get (fa_Addresses_32 rfl rfl) d_Addresses_takeColon_50 hA2 rfl ?_
      refine ev_Vv (ci := 1) [] [.ref (X + 26), .ref (X + 18)] ca_Addresses_takeColon_45 d_Addresses_takeColon_53 rfl ((S2.1.1 _ m31).1.1) rfl (Nat.le_of_ble_eq_true rfl) (w_size S2.1 m31) ?_
      refine ev_Vn (ci := 5) [.ref (X + 26), .int _] [] ca_Addresses_takeColon_90 d_Addresses_takeColon_56 rfl (hA2) rfl (Nat.le_of_ble_eq_true rfl) (w_putName hT S2 O2 m26 _) (fun h1 z => ?_)
      obtain ⟨σ3, S3, r3, p3, -⟩ := z
      refine ev_goto (tgt := 72) d_Addresses_takeColon_59 (by decide) ?_
      exact a72 _ σ3 S3 (aO_go S2 r3 O2) (kR_tr r2 (kR_of r3)) (sub1 p3 (by decide))
  · refine ev_aload_n d_Addresses_takeColon_8 rfl rfl ?_
    refine ev_dup d_Addresses_takeColon_9 rfl ?_
    refine ev_get (fa_Addresses_35 rfl rfl) d_Addresses_takeColon_10 hA rfl ?_
    refine ev_iconst (v := 1) d_Addresses_takeColon_13 (by decide) ?_
    refine ev_iadd d_Addresses_takeColon_14 ?_
    refine ev_put (fp_Addresses_35 rfl rfl) d_Addresses_takeColon_15 hA (Nat.le_of_ble_eq_true rfl) rfl rfl ?_
    show ev_E G m_Addresses_takeColon 18 _ _ (hp_up h (X + 18) (.inr (adO X (a + 1) b c))) _
    refine ev_vret d_Addresses_takeColon_18 rfl ?_
    exact ⟨rfl, aO_up O _ _ _, σ, aS_up S O _ _ _, kR_up (by simp), fun _ _ => rfl⟩
theorem w_takeMailbox (hT : (gl_t G)[0]? = some (cI, .int)) {h : hp_T} {σ : rwT} (S : tS cI X h σ) (O : aO X h) : ct_E G m_Addresses_takeMailbox [.ref (X + 18)] h (rW cI X h σ adR) := by
  have m11 : (11 : Nat) ∈ txs := by decide
  have m19 : (19 : Nat) ∈ txs := by decide
  have m24 : (24 : Nat) ∈ rws := by decide
  have m31 : (31 : Nat) ∈ rws := by decide
  obtain ⟨⟨a, b, c, hA⟩, r, hW⟩ := id O
  refine ct_of (ws' := tb_all) rfl rfl (Nat.le_of_ble_eq_true rfl) ?_
  refine ev_aload_n d_Addresses_takeMailbox_0 rfl rfl ?_
  refine ev_Vr (ci := 5) [] [] ca_Addresses_takeMailbox_97 d_Addresses_takeMailbox_1 rfl (hA) rfl (Nat.le_of_ble_eq_true rfl) (w_firstOpen hT S O) (fun v h1 z => ?_)
  obtain ⟨⟨op, rfl⟩, z⟩ := z
  obtain rfl := z.symm
  have a119 : ∀ (fr to le : Int32) (h2 : hp_T) (σ2 : rwT), tS cI X h2 σ2 → aO X h2 → rwR X h σ h2 σ2 → (∀ τ, τ ∉ adR → (σ2 τ).2.2 = (σ τ).2.2) → ev_E G m_Addresses_takeMailbox 119 [(0, .ref (X + 18)), (1, .int op), (2, .int fr), (3, .int to), (4, .int le)] [] h2 (rW cI X h σ adR) := by
    intro fr to le h2 σ2 S2 O2 r2 p2
    obtain ⟨⟨a, b, c, hA2⟩, r, hW2⟩ := id O2
    refine ev_aload_n d_Addresses_takeMailbox_119 rfl rfl ?_
    refine ev_get (fa_Addresses_18 rfl rfl) d_Addresses_takeMailbox_120 hA2 rfl ?_
    refine ev_Vn (ci := 3) [] [] ca_Addresses_takeMailbox_94 d_Addresses_takeMailbox_123 rfl ((S2.2 19 m19)) rfl (Nat.le_of_ble_eq_true rfl) (w_close hT S2 m19) (fun h1 z => ?_)
    obtain ⟨σ3, S3, r3, p3, -⟩ := z
    have O3 := aO_go S2 r3 O2
    obtain ⟨⟨a, b, c, hA3⟩, r, hW3⟩ := id O3
    refine ev_aload_n d_Addresses_takeMailbox_126 rfl rfl ?_
    refine ev_iload_n d_Addresses_takeMailbox_127 rfl rfl ?_
    refine ev_iload d_Addresses_takeMailbox_128 rfl ?_
    refine ev_Vn (ci := 5) [.int fr, .int le] [] ca_Addresses_takeMailbox_121 d_Addresses_takeMailbox_130 rfl (hA3) rfl (Nat.le_of_ble_eq_true rfl) (w_putWords hT S3 O3 fr le) (fun h1 z => ?_)
    obtain ⟨σ4, S4, r4, p4, -⟩ := z
    have O4 := aO_go S3 r4 O3
    obtain ⟨⟨a, b, c, hA4⟩, r, hW4⟩ := id O4
    refine ev_aload_n d_Addresses_takeMailbox_133 rfl rfl ?_
    refine ev_iload d_Addresses_takeMailbox_134 rfl ?_
    refine ev_iconst (v := 1) d_Addresses_takeMailbox_136 (by decide) ?_
    refine ev_iadd d_Addresses_takeMailbox_137 ?_
    refine ev_iload_n d_Addresses_takeMailbox_138 rfl rfl ?_
    refine ev_Vn (ci := 5) [.int _, .int to] [] ca_Addresses_takeMailbox_121 d_Addresses_takeMailbox_139 rfl (hA4) rfl (Nat.le_of_ble_eq_true rfl) (w_putWords hT S4 O4 _ to) (fun h1 z => ?_)
    obtain ⟨σ5, S5, r5, p5, -⟩ := z
    have O5 := aO_go S4 r5 O4
    obtain ⟨⟨a, b, c, hA5⟩, r, hW5⟩ := id O5
    refine ev_aload_n d_Addresses_takeMailbox_142 rfl rfl ?_
    refine ev_get (fa_Addresses_25 rfl rfl) d_Addresses_takeMailbox_143 hA5 rfl ?_
    refine ev_aload_n d_Addresses_takeMailbox_146 rfl rfl ?_
    refine ev_get (fa_Addresses_39 rfl rfl) d_Addresses_takeMailbox_147 hA5 rfl ?_
    refine ev_Vn (ci := 1) [.int b] [] ca_Addresses_takeMailbox_75 d_Addresses_takeMailbox_150 rfl ((S5.1.1 _ m24).1.1) rfl (Nat.le_of_ble_eq_true rfl) (w_radd hT S5 m24 b) (fun h1 z => ?_)
    obtain ⟨σ6, S6, r6, p6, -⟩ := z
    refine ev_iconst (v := 1) d_Addresses_takeMailbox_153 (by decide) ?_
    refine ev_zret d_Addresses_takeMailbox_154 rfl rfl ?_
    exact ⟨_, rfl, ⟨_, rfl⟩, σ6, S6, rwR_tr r2 (rwR_tr r3 (rwR_tr r4 (rwR_tr r5 r6))), fun τ hτ => (sub1 p6 (by decide) τ hτ).trans ((p5 τ hτ).trans ((p4 τ hτ).trans ((sub1 p3 (by decide) τ hτ).trans (p2 τ hτ)))), trivial⟩
  have a85 : ∀ fr to le : Int32, ev_E G m_Addresses_takeMailbox 85 [(0, .ref (X + 18)), (1, .int op), (2, .int fr), (3, .int to), (4, .int le)] [] h (rW cI X h σ adR) := by
    intro fr to le
    refine ev_iload_n d_Addresses_takeMailbox_85 rfl rfl ?_
    refine ev_if_le (tgt := 101) d_Addresses_takeMailbox_86 (by decide) (fun c_86 => ?_) (fun c_86 => ?_)
    · refine ev_aload_n d_Addresses_takeMailbox_101 rfl rfl ?_
      refine ev_get (fa_Addresses_18 rfl rfl) d_Addresses_takeMailbox_102 hA rfl ?_
      refine ev_aload_n d_Addresses_takeMailbox_105 rfl rfl ?_
      refine ev_get (fa_Addresses_9 rfl rfl) d_Addresses_takeMailbox_106 hA rfl ?_
      refine ev_Vv (ci := 4) [] [.ref (X + 19)] ca_Addresses_takeMailbox_115 d_Addresses_takeMailbox_109 rfl (hW) rfl (Nat.le_of_ble_eq_true rfl) (w_wtexts hW) ?_
      refine ev_aload_n d_Addresses_takeMailbox_112 rfl rfl ?_
      refine ev_get (fa_Addresses_42 rfl rfl) d_Addresses_takeMailbox_113 hA rfl ?_
      refine ev_Vn (ci := 3) [.ref (X + 11), .int c] [] ca_Addresses_takeMailbox_118 d_Addresses_takeMailbox_116 rfl ((S.2 19 m19)) rfl (Nat.le_of_ble_eq_true rfl) (w_putText hT S m19 m11 c) (fun h1 z => ?_)
      obtain ⟨σ2, S2, r2, p2, -⟩ := z
      exact a119 fr to le h1 σ2 S2 (aO_go S r2 O) r2 (sub1 p2 (by decide))
    · refine ev_aload_n d_Addresses_takeMailbox_89 rfl rfl ?_
      refine ev_aload_n d_Addresses_takeMailbox_90 rfl rfl ?_
      refine ev_get (fa_Addresses_18 rfl rfl) d_Addresses_takeMailbox_91 hA rfl ?_
      refine ev_iload_n d_Addresses_takeMailbox_94 rfl rfl ?_
      refine ev_Vn (ci := 5) [.ref (X + 19), .int op] [] ca_Addresses_takeMailbox_90 d_Addresses_takeMailbox_95 rfl (hA) rfl (Nat.le_of_ble_eq_true rfl) (w_putName hT S O m19 op) (fun h1 z => ?_)
      obtain ⟨σ2, S2, r2, p2, -⟩ := z
      refine ev_goto (tgt := 119) d_Addresses_takeMailbox_98 (by decide) ?_
      exact a119 fr to le h1 σ2 S2 (aO_go S r2 O) r2 (sub1 p2 (by decide))
  have no : ∀ fr to le : Int32, ev_E G m_Addresses_takeMailbox 83 [(0, .ref (X + 18)), (1, .int op), (2, .int fr), (3, .int to), (4, .int le)] [] h (rW cI X h σ adR) := by
    intro fr to le
    refine ev_iconst (v := 0) d_Addresses_takeMailbox_83 (by decide) ?_
    refine ev_zret d_Addresses_takeMailbox_84 rfl rfl ?_
    exact ⟨_, rfl, ⟨_, rfl⟩, tW_rf S⟩
  have a52 : ∀ fr to : Int32, ev_E G m_Addresses_takeMailbox 52 [(0, .ref (X + 18)), (1, .int op), (2, .int fr), (3, .int to)] [] h (rW cI X h σ adR) := by
    intro fr to
    refine ev_aload_n d_Addresses_takeMailbox_52 rfl rfl ?_
    refine ev_iload_n d_Addresses_takeMailbox_53 rfl rfl ?_
    refine ev_iload_n d_Addresses_takeMailbox_54 rfl rfl ?_
    refine ev_iconst (v := 1) d_Addresses_takeMailbox_55 (by decide) ?_
    refine ev_Vr (ci := 5) [.int fr, .int to, .int 1] [] ca_Addresses_takeMailbox_107 d_Addresses_takeMailbox_56 rfl (hA) rfl (Nat.le_of_ble_eq_true rfl) (w_dottedEnd hT S O fr to 1) (fun v h1 z => ?_)
    obtain ⟨⟨le, rfl⟩, z⟩ := z
    obtain rfl := z.symm
    refine ev_istore d_Addresses_takeMailbox_59 (by decide) ?_
    refine ev_iload d_Addresses_takeMailbox_61 rfl ?_
    refine ev_iconst (v := (-1)) d_Addresses_takeMailbox_63 (by decide) ?_
    refine ev_icmp_eq (tgt := 83) d_Addresses_takeMailbox_64 (by decide) (fun c_64 => ?_) (fun c_64 => ?_)
    · exact no fr to le
    · refine ev_iload d_Addresses_takeMailbox_67 rfl ?_
      refine ev_iload_n d_Addresses_takeMailbox_69 rfl rfl ?_
      refine ev_icmp_ge (tgt := 85) d_Addresses_takeMailbox_70 (by decide) (fun c_70 => ?_) (fun c_70 => ?_)
      · exact a85 fr to le
      · refine ev_aload_n d_Addresses_takeMailbox_73 rfl rfl ?_
        refine ev_iload d_Addresses_takeMailbox_74 rfl ?_
        refine ev_iload_n d_Addresses_takeMailbox_76 rfl rfl ?_
        refine ev_Vr (ci := 5) [.int le, .int to] [] ca_Addresses_takeMailbox_111 d_Addresses_takeMailbox_77 rfl (hA) rfl (Nat.le_of_ble_eq_true rfl) (w_isDomainBehind hT S O le to) (fun v h1 z => ?_)
        obtain ⟨⟨q, rfl⟩, z⟩ := z
        obtain rfl := z.symm
        refine ev_if_ne (tgt := 85) d_Addresses_takeMailbox_80 (by decide) (fun c_80 => ?_) (fun c_80 => ?_)
        · exact a85 fr to le
        · exact no fr to le
  have n41 : ∀ fr to : Int32, ev_E G m_Addresses_takeMailbox 41 [(0, .ref (X + 18)), (1, .int op), (2, .int fr), (3, .int to)] [] h (rW cI X h σ adR) := by
    intro fr to
    refine ev_iconst (v := 0) d_Addresses_takeMailbox_41 (by decide) ?_
    refine ev_zret d_Addresses_takeMailbox_42 rfl rfl ?_
    exact ⟨_, rfl, ⟨_, rfl⟩, tW_rf S⟩
  refine ev_istore_n d_Addresses_takeMailbox_4 rfl (by decide) ?_
  refine ev_iconst (v := 0) d_Addresses_takeMailbox_5 (by decide) ?_
  refine ev_istore_n d_Addresses_takeMailbox_6 rfl (by decide) ?_
  refine ev_aload_n d_Addresses_takeMailbox_7 rfl rfl ?_
  refine ev_get (fa_Addresses_32 rfl rfl) d_Addresses_takeMailbox_8 hA rfl ?_
  refine ev_Vv (ci := 1) [] [] ca_Addresses_takeMailbox_45 d_Addresses_takeMailbox_11 rfl ((S.1.1 _ m31).1.1) rfl (Nat.le_of_ble_eq_true rfl) (w_size S.1 m31) ?_
  refine ev_istore_n d_Addresses_takeMailbox_14 rfl (by decide) ?_
  refine ev_iload_n d_Addresses_takeMailbox_15 rfl rfl ?_
  refine ev_iconst (v := (-1)) d_Addresses_takeMailbox_16 (by decide) ?_
  refine ev_icmp_eq (tgt := 52) d_Addresses_takeMailbox_17 (by decide) (fun c_17 => ?_) (fun c_17 => ?_)
  · exact a52 0 _
  · refine ev_iinc d_Addresses_takeMailbox_20 rfl (by decide) ?_
    refine ev_aload_n d_Addresses_takeMailbox_23 rfl rfl ?_
    refine ev_iload_n d_Addresses_takeMailbox_24 rfl rfl ?_
    refine ev_Vr (ci := 5) [.int _] [] ca_Addresses_takeMailbox_100 d_Addresses_takeMailbox_25 rfl (hA) rfl (Nat.le_of_ble_eq_true rfl) (w_kindAt hT S O _) (fun v h1 z => ?_)
    obtain ⟨⟨q, rfl⟩, z⟩ := z
    obtain rfl := z.symm
    refine ev_bipush (v := 62) d_Addresses_takeMailbox_28 (by decide) ?_
    refine ev_icmp_ne (tgt := 41) d_Addresses_takeMailbox_30 (by decide) (fun c_30 => ?_) (fun c_30 => ?_)
    · exact n41 0 _
    · refine ev_aload_n d_Addresses_takeMailbox_33 rfl rfl ?_
      refine ev_iload_n d_Addresses_takeMailbox_34 rfl rfl ?_
      refine ev_Vr (ci := 5) [.int op] [] ca_Addresses_takeMailbox_86 d_Addresses_takeMailbox_35 rfl (hA) rfl (Nat.le_of_ble_eq_true rfl) (w_isName hT S O op) (fun v h1 z => ?_)
      obtain ⟨⟨q, rfl⟩, z⟩ := z
      obtain rfl := z.symm
      refine ev_if_ne (tgt := 43) d_Addresses_takeMailbox_38 (by decide) (fun c_38 => ?_) (fun c_38 => ?_)
      · refine ev_aload_n d_Addresses_takeMailbox_43 rfl rfl ?_
        refine ev_iload_n d_Addresses_takeMailbox_44 rfl rfl ?_
        refine ev_iconst (v := 1) d_Addresses_takeMailbox_45 (by decide) ?_
        refine ev_iadd d_Addresses_takeMailbox_46 ?_
        refine ev_iload_n d_Addresses_takeMailbox_47 rfl rfl ?_
        refine ev_Vr (ci := 5) [.int _, .int _] [] ca_Addresses_takeMailbox_103 d_Addresses_takeMailbox_48 rfl (hA) rfl (Nat.le_of_ble_eq_true rfl) (w_behindRoute hT S O _ _) (fun v h1 z => ?_)
        obtain ⟨⟨q, rfl⟩, z⟩ := z
        obtain rfl := z.symm
        refine ev_istore_n d_Addresses_takeMailbox_51 rfl (by decide) ?_
        exact a52 q _
      · exact n41 0 _
theorem w_takeGathered (hT : (gl_t G)[0]? = some (cI, .int)) {h : hp_T} {σ : rwT} (S : tS cI X h σ) (O : aO X h) (s : Int32) : ct_E G m_Addresses_takeGathered [.ref (X + 18), .int s] h (cn (aP cI X h σ)) := by
  have m31 : (31 : Nat) ∈ rws := by decide
  obtain ⟨⟨a, b, c, hA⟩, r, hW⟩ := id O
  have a51 : ∀ (h2 : hp_T) (σ2 : rwT), tS cI X h2 σ2 → aO X h2 → kR [X + 18] X h σ h2 σ2 → (∀ τ, τ ∉ adR → (σ2 τ).2.2 = (σ τ).2.2) → ev_E G m_Addresses_takeGathered 51 [(0, .ref (X + 18)), (1, .int s)] [] h2 (cn (aP cI X h σ)) := by
    intro h2 σ2 S2 O2 r2 p2
    obtain ⟨⟨a, b, c, hA2⟩, r, hW2⟩ := id O2
    refine ev_aload_n d_Addresses_takeGathered_51 rfl rfl ?_
    refine ev_Vn (ci := 5) [] [] ca_Addresses_takeGathered_63 d_Addresses_takeGathered_52 rfl (hA2) rfl (Nat.le_of_ble_eq_true rfl) (w_beginGathering S2 O2) (fun h1 z => ?_)
    refine ev_vret d_Addresses_takeGathered_55 rfl ?_
    exact ⟨rfl, aP_mk r2 p2 ‹_›⟩
  have a40 : ∀ (h2 : hp_T) (σ2 : rwT), tS cI X h2 σ2 → aO X h2 → kR [X + 18] X h σ h2 σ2 → (∀ τ, τ ∉ adR → (σ2 τ).2.2 = (σ τ).2.2) → ev_E G m_Addresses_takeGathered 40 [(0, .ref (X + 18)), (1, .int s)] [] h2 (cn (aP cI X h σ)) := by
    intro h2 σ2 S2 O2 r2 p2
    obtain ⟨⟨a, b, c, hA2⟩, r, hW2⟩ := id O2
    refine ev_iload_n d_Addresses_takeGathered_40 rfl rfl ?_
    refine ev_bipush (v := 59) d_Addresses_takeGathered_41 (by decide) ?_
    refine ev_icmp_ne (tgt := 51) d_Addresses_takeGathered_43 (by decide) (fun c_43 => ?_) (fun c_43 => ?_)
    · exact a51 h2 σ2 S2 O2 r2 p2
    · refine ev_aload_n d_Addresses_takeGathered_46 rfl rfl ?_
      refine ev_iconst (v := (-1)) d_Addresses_takeGathered_47 (by decide) ?_
      refine ev_put (fp_Addresses_39 rfl rfl) d_Addresses_takeGathered_48 hA2 (Nat.le_of_ble_eq_true rfl) rfl rfl ?_
      show ev_E G m_Addresses_takeGathered 51 _ _ (hp_up h2 (X + 18) (.inr (adO X a (-1) c))) _
      exact a51 _ σ2 (aS_up S2 O2 _ _ _) (aO_up O2 _ _ _) (kR_tr r2 (kR_up (by simp))) p2
  refine ct_of (ws' := tb_all) rfl rfl (Nat.le_of_ble_eq_true rfl) ?_
  refine ev_iload_n d_Addresses_takeGathered_0 rfl rfl ?_
  refine ev_bipush (v := 58) d_Addresses_takeGathered_1 (by decide) ?_
  refine ev_icmp_ne (tgt := 13) d_Addresses_takeGathered_3 (by decide) (fun c_3 => ?_) (fun c_3 => ?_)
  · refine ev_aload_n d_Addresses_takeGathered_13 rfl rfl ?_
    refine ev_get (fa_Addresses_32 rfl rfl) d_Addresses_takeGathered_14 hA rfl ?_
    refine ev_Vv (ci := 1) [] [] ca_Addresses_takeGathered_45 d_Addresses_takeGathered_17 rfl ((S.1.1 _ m31).1.1) rfl (Nat.le_of_ble_eq_true rfl) (w_size S.1 m31) ?_
    refine ev_if_le (tgt := 40) d_Addresses_takeGathered_20 (by decide) (fun c_20 => ?_) (fun c_20 => ?_)
    · exact a40 h σ S O kR_rf (fun _ _ => rfl)
    · refine ev_aload_n d_Addresses_takeGathered_23 rfl rfl ?_
      refine ev_Vr (ci := 5) [] [] ca_Addresses_takeGathered_81 d_Addresses_takeGathered_24 rfl (hA) rfl (Nat.le_of_ble_eq_true rfl) (w_takeMailbox hT S O) (fun v h1 z => ?_)
      obtain ⟨⟨q, rfl⟩, σ2, S2, r2, p2, -⟩ := z
      have O2 := aO_go S r2 O
      obtain ⟨⟨a, b, c, hA2⟩, r, hW2⟩ := id O2
      refine ev_if_ne (tgt := 40) d_Addresses_takeGathered_27 (by decide) (fun c_27 => ?_) (fun c_27 => ?_)
      · exact a40 _ σ2 S2 O2 (kR_of r2) p2
      · refine ev_aload_n d_Addresses_takeGathered_30 rfl rfl ?_
        refine ev_dup d_Addresses_takeGathered_31 rfl ?_
        refine ev_get (fa_Addresses_35 rfl rfl) d_Addresses_takeGathered_32 hA2 rfl ?_
        refine ev_iconst (v := 1) d_Addresses_takeGathered_35 (by decide) ?_
        refine ev_iadd d_Addresses_takeGathered_36 ?_
        refine ev_put (fp_Addresses_35 rfl rfl) d_Addresses_takeGathered_37 hA2 (Nat.le_of_ble_eq_true rfl) rfl rfl ?_
        show ev_E G m_Addresses_takeGathered 40 _ _ (hp_up _ (X + 18) (.inr (adO X (a + 1) b c))) _
        exact a40 _ σ2 (aS_up S2 O2 _ _ _) (aO_up O2 _ _ _) (kR_tr (kR_of r2) (kR_up (by simp))) p2
  · refine ev_aload_n d_Addresses_takeGathered_6 rfl rfl ?_
    refine ev_Vn (ci := 5) [] [] ca_Addresses_takeGathered_78 d_Addresses_takeGathered_7 rfl (hA) rfl (Nat.le_of_ble_eq_true rfl) (w_atakeColon hT S O) (fun h1 z => ?_)
    obtain ⟨O2, σ2, S2, r2, p2⟩ := z
    refine ev_goto (tgt := 40) d_Addresses_takeGathered_10 (by decide) ?_
    exact a40 _ σ2 S2 O2 r2 p2
theorem l_areadWords (hT : (gl_t G)[0]? = some (cI, .int)) : ∀ (d : Nat) (i an : Int32) (h : hp_T) (σ : rwT), ((nI (σ 16).2.2.length).toInt - i.toInt).toNat = d → tS cI X h σ → aO X h → ev_E G m_Addresses_readWords 40 [(0, .ref (X + 18)), (1, .int an), (2, .int i)] [] h (cn (aP cI X h σ)) := by
  have m16 : (16 : Nat) ∈ rws := by decide
  have m31 : (31 : Nat) ∈ rws := by decide
  intro d
  induction d using Nat.strongRecOn with
  | ind d ih =>
    intro i an h σ hd S O
    obtain ⟨⟨a, b, c, hA⟩, r, hW⟩ := id O
    refine ev_iload_n d_Addresses_readWords_40 rfl rfl ?_
    refine ev_aload_n d_Addresses_readWords_41 rfl rfl ?_
    refine ev_get (fa_Addresses_9 rfl rfl) d_Addresses_readWords_42 hA rfl ?_
    refine ev_Vv (ci := 4) [] [.int i] ca_Addresses_readWords_66 d_Addresses_readWords_45 rfl (hW) rfl (Nat.le_of_ble_eq_true rfl) (w_wkinds hW) ?_
    refine ev_Vv (ci := 1) [] [.int i] ca_Addresses_readWords_45 d_Addresses_readWords_48 rfl ((S.1.1 _ m16).1.1) rfl (Nat.le_of_ble_eq_true rfl) (w_size S.1 m16) ?_
    refine ev_icmp_ge (tgt := 159) d_Addresses_readWords_51 (by decide) (fun c_51 => ?_) (fun c_51 => ?_)
    · refine ev_aload_n d_Addresses_readWords_159 rfl rfl ?_
      refine ev_bipush (v := 44) d_Addresses_readWords_160 (by decide) ?_
      refine ev_Vn (ci := 5) [.int 44] [] ca_Addresses_readWords_72 d_Addresses_readWords_162 rfl (hA) rfl (Nat.le_of_ble_eq_true rfl) (w_takeGathered hT S O 44) (fun h1 z => ?_)
      refine ev_vret d_Addresses_readWords_165 rfl ?_
      exact ⟨rfl, ‹_›⟩
    · have e1 := i32_s c_51
      have e2 := i32_lt c_51
      refine ev_aload_n d_Addresses_readWords_54 rfl rfl ?_
      refine ev_get (fa_Addresses_9 rfl rfl) d_Addresses_readWords_55 hA rfl ?_
      refine ev_Vv (ci := 4) [] [] ca_Addresses_readWords_66 d_Addresses_readWords_58 rfl (hW) rfl (Nat.le_of_ble_eq_true rfl) (w_wkinds hW) ?_
      refine ev_iload_n d_Addresses_readWords_61 rfl rfl ?_
      refine ev_Vv (ci := 1) [.int i] [] ca_Addresses_readWords_49 d_Addresses_readWords_62 rfl ((S.1.1 _ m16).1.1) rfl (Nat.le_of_ble_eq_true rfl) (w_get hT S.1 m16 i) ?_
      generalize rg (σ 16).2.2 i = k
      have a153 : ∀ (an : Int32) (h2 : hp_T) (σ2 : rwT), tS cI X h2 σ2 → aO X h2 → kR [X + 18] X h σ h2 σ2 → (∀ τ, τ ∉ adR → (σ2 τ).2.2 = (σ τ).2.2) → ev_E G m_Addresses_readWords 153 [(0, .ref (X + 18)), (1, .int an), (2, .int i), (3, .int k)] [] h2 (cn (aP cI X h σ)) := by
        intro an h2 σ2 S2 O2 r2 p2
        refine ev_iinc d_Addresses_readWords_153 rfl (by decide) ?_
        refine ev_goto (tgt := 40) d_Addresses_readWords_156 (by decide) ?_
        refine ev_as [(0, .ref (X + 18)), (1, .int an), (2, .int (i + 1))] ⟨rfl, rfl, rfl, trivial⟩ (ev_to (ih _ (by rw [p2 16 (by decide), e1]; omega) (i + 1) an h2 σ2 rfl S2 O2) ?_)
        rintro o h' ⟨rfl, p⟩
        exact ⟨rfl, aP_mk r2 p2 p⟩
      have a87 : ∀ x : Int32, ev_E G m_Addresses_readWords 87 [(0, .ref (X + 18)), (1, .int an), (2, .int i), (3, .int k)] [.int x, .ref (X + 18)] h (cn (aP cI X h σ)) := by
        intro x
        refine ev_put (fp_Addresses_42 rfl rfl) d_Addresses_readWords_87 hA (Nat.le_of_ble_eq_true rfl) rfl rfl ?_
        refine ev_goto (tgt := 153) d_Addresses_readWords_90 (by decide) ?_
        show ev_E G m_Addresses_readWords 153 _ _ (hp_up h (X + 18) (.inr (adO X a b x))) _
        exact a153 an _ σ (aS_up S O _ _ _) (aO_up O _ _ _) (kR_up (by simp)) (fun _ _ => rfl)
      have a115 : ev_E G m_Addresses_readWords 115 [(0, .ref (X + 18)), (1, .int an), (2, .int i), (3, .int k)] [] h (cn (aP cI X h σ)) := by
        refine ev_aload_n d_Addresses_readWords_115 rfl rfl ?_
        refine ev_iload_n d_Addresses_readWords_116 rfl rfl ?_
        refine ev_Vn (ci := 5) [.int k] [] ca_Addresses_readWords_72 d_Addresses_readWords_117 rfl (hA) rfl (Nat.le_of_ble_eq_true rfl) (w_takeGathered hT S O k) (fun h1 z => ?_)
        obtain ⟨O2, σ2, S2, r2, p2⟩ := z
        refine ev_goto (tgt := 153) d_Addresses_readWords_120 (by decide) ?_
        exact a153 an _ σ2 S2 O2 r2 p2
      have a123 : ev_E G m_Addresses_readWords 123 [(0, .ref (X + 18)), (1, .int an), (2, .int i), (3, .int k)] [] h (cn (aP cI X h σ)) := by
        refine ev_aload_n d_Addresses_readWords_123 rfl rfl ?_
        refine ev_get (fa_Addresses_32 rfl rfl) d_Addresses_readWords_124 hA rfl ?_
        refine ev_iload_n d_Addresses_readWords_127 rfl rfl ?_
        refine ev_Vn (ci := 1) [.int i] [] ca_Addresses_readWords_75 d_Addresses_readWords_128 rfl ((S.1.1 _ m31).1.1) rfl (Nat.le_of_ble_eq_true rfl) (w_radd hT S m31 i) (fun h1 z => ?_)
        obtain ⟨σ2, S2, r2, p2, -⟩ := z
        have O2 := aO_go S r2 O
        have yes : ev_E G m_Addresses_readWords 147 [(0, .ref (X + 18)), (1, .int an), (2, .int i), (3, .int k)] [] h1 (cn (aP cI X h σ)) := by
          refine ev_iconst (v := 1) d_Addresses_readWords_147 (by decide) ?_
          refine ev_goto (tgt := 152) d_Addresses_readWords_148 (by decide) ?_
          refine ev_istore_n d_Addresses_readWords_152 rfl (by decide) ?_
          exact ev_as [(0, .ref (X + 18)), (1, .int 1), (2, .int i), (3, .int k)] ⟨rfl, rfl, rfl, rfl, trivial⟩ (a153 1 _ σ2 S2 O2 (kR_of r2) (sub1 p2 (by decide)))
        have no : ev_E G m_Addresses_readWords 151 [(0, .ref (X + 18)), (1, .int an), (2, .int i), (3, .int k)] [] h1 (cn (aP cI X h σ)) := by
          refine ev_iconst (v := 0) d_Addresses_readWords_151 (by decide) ?_
          refine ev_istore_n d_Addresses_readWords_152 rfl (by decide) ?_
          exact ev_as [(0, .ref (X + 18)), (1, .int 0), (2, .int i), (3, .int k)] ⟨rfl, rfl, rfl, rfl, trivial⟩ (a153 0 _ σ2 S2 O2 (kR_of r2) (sub1 p2 (by decide)))
        refine ev_iload_n d_Addresses_readWords_131 rfl rfl ?_
        refine ev_bipush (v := 60) d_Addresses_readWords_132 (by decide) ?_
        refine ev_icmp_eq (tgt := 147) d_Addresses_readWords_134 (by decide) (fun c_134 => ?_) (fun c_134 => ?_)
        · exact yes
        · refine ev_iload_n d_Addresses_readWords_137 rfl rfl ?_
          refine ev_if_eq (tgt := 151) d_Addresses_readWords_138 (by decide) (fun c_138 => ?_) (fun c_138 => ?_)
          · exact no
          · refine ev_iload_n d_Addresses_readWords_141 rfl rfl ?_
            refine ev_bipush (v := 62) d_Addresses_readWords_142 (by decide) ?_
            refine ev_icmp_eq (tgt := 151) d_Addresses_readWords_144 (by decide) (fun c_144 => ?_) (fun c_144 => ?_)
            · exact no
            · exact yes
      refine ev_istore_n d_Addresses_readWords_65 rfl (by decide) ?_
      refine ev_iload_n d_Addresses_readWords_66 rfl rfl ?_
      refine ev_iconst (v := 4) d_Addresses_readWords_67 (by decide) ?_
      refine ev_icmp_ne (tgt := 93) d_Addresses_readWords_68 (by decide) (fun c_68 => ?_) (fun c_68 => ?_)
      · refine ev_iload_n d_Addresses_readWords_93 rfl rfl ?_
        refine ev_if_ne (tgt := 123) d_Addresses_readWords_94 (by decide) (fun c_94 => ?_) (fun c_94 => ?_)
        · exact a123
        · refine ev_iload_n d_Addresses_readWords_97 rfl rfl ?_
          refine ev_bipush (v := 44) d_Addresses_readWords_98 (by decide) ?_
          refine ev_icmp_eq (tgt := 115) d_Addresses_readWords_100 (by decide) (fun c_100 => ?_) (fun c_100 => ?_)
          · exact a115
          · refine ev_iload_n d_Addresses_readWords_103 rfl rfl ?_
            refine ev_bipush (v := 59) d_Addresses_readWords_104 (by decide) ?_
            refine ev_icmp_eq (tgt := 115) d_Addresses_readWords_106 (by decide) (fun c_106 => ?_) (fun c_106 => ?_)
            · exact a115
            · refine ev_iload_n d_Addresses_readWords_109 rfl rfl ?_
              refine ev_bipush (v := 58) d_Addresses_readWords_110 (by decide) ?_
              refine ev_icmp_ne (tgt := 123) d_Addresses_readWords_112 (by decide) (fun c_112 => ?_) (fun c_112 => ?_)
              · exact a123
              · exact a115
      · refine ev_aload_n d_Addresses_readWords_71 rfl rfl ?_
        refine ev_aload_n d_Addresses_readWords_72 rfl rfl ?_
        refine ev_get (fa_Addresses_32 rfl rfl) d_Addresses_readWords_73 hA rfl ?_
        refine ev_Vv (ci := 1) [] [.ref (X + 18)] ca_Addresses_readWords_45 d_Addresses_readWords_76 rfl ((S.1.1 _ m31).1.1) rfl (Nat.le_of_ble_eq_true rfl) (w_size S.1 m31) ?_
        refine ev_if_le (tgt := 86) d_Addresses_readWords_79 (by decide) (fun c_79 => ?_) (fun c_79 => ?_)
        · refine ev_iconst (v := (-1)) d_Addresses_readWords_86 (by decide) ?_
          exact a87 (-1)
        · refine ev_iload_n d_Addresses_readWords_82 rfl rfl ?_
          refine ev_goto (tgt := 87) d_Addresses_readWords_83 (by decide) ?_
          exact a87 i
theorem w_areadWords (hT : (gl_t G)[0]? = some (cI, .int)) {h : hp_T} {σ : rwT} (S : tS cI X h σ) (O : aO X h) : ct_E G m_Addresses_readWords [.ref (X + 18)] h (cn (aP cI X h σ)) := by
  have m19 : (19 : Nat) ∈ txs := by decide
  have m26 : (26 : Nat) ∈ txs := by decide
  have m24 : (24 : Nat) ∈ rws := by decide
  obtain ⟨⟨a, b, c, hA⟩, r, hW⟩ := id O
  refine ct_of (ws' := tb_all) rfl rfl (Nat.le_of_ble_eq_true rfl) ?_
  refine ev_aload_n d_Addresses_readWords_0 rfl rfl ?_
  refine ev_get (fa_Addresses_18 rfl rfl) d_Addresses_readWords_1 hA rfl ?_
  refine ev_Vn (ci := 3) [] [] ca_Addresses_readWords_56 d_Addresses_readWords_4 rfl ((S.2 19 m19)) rfl (Nat.le_of_ble_eq_true rfl) (w_clear S m19) (fun h1 z => ?_)
  obtain ⟨σ1, S1, r1, p1, -⟩ := z
  have O1 := aO_go S r1 O
  obtain ⟨⟨a, b, c, hA1⟩, r, hW1⟩ := id O1
  refine ev_aload_n d_Addresses_readWords_7 rfl rfl ?_
  refine ev_get (fa_Addresses_25 rfl rfl) d_Addresses_readWords_8 hA1 rfl ?_
  refine ev_iconst (v := 0) d_Addresses_readWords_11 (by decide) ?_
  refine ev_Vn (ci := 1) [.int 0] [] ca_Addresses_readWords_59 d_Addresses_readWords_12 rfl ((S1.1.1 _ m24).1.1) rfl (Nat.le_of_ble_eq_true rfl) (w_rcut S1 m24 0) (fun h1 z => ?_)
  obtain ⟨σ2, S2, r2, p2, -⟩ := z
  have O2 := aO_go S1 r2 O1
  obtain ⟨⟨a, b, c, hA2⟩, r, hW2⟩ := id O2
  refine ev_aload_n d_Addresses_readWords_15 rfl rfl ?_
  refine ev_get (fa_Addresses_29 rfl rfl) d_Addresses_readWords_16 hA2 rfl ?_
  refine ev_Vn (ci := 3) [] [] ca_Addresses_readWords_56 d_Addresses_readWords_19 rfl ((S2.2 26 m26)) rfl (Nat.le_of_ble_eq_true rfl) (w_clear S2 m26) (fun h1 z => ?_)
  obtain ⟨σ3, S3, r3, p3, -⟩ := z
  have O3 := aO_go S2 r3 O2
  obtain ⟨⟨a, b, c, hA3⟩, r, hW3⟩ := id O3
  have q3 : ∀ τ, τ ∉ adR → (σ3 τ).2.2 = (σ τ).2.2 := fun τ hτ => (subL p3 (by decide) τ hτ).trans ((sub1 p2 (by decide) τ hτ).trans (subL p1 (by decide) τ hτ))
  refine ev_aload_n d_Addresses_readWords_22 rfl rfl ?_
  refine ev_iconst (v := 0) d_Addresses_readWords_23 (by decide) ?_
  refine ev_put (fp_Addresses_35 rfl rfl) d_Addresses_readWords_24 hA3 (Nat.le_of_ble_eq_true rfl) rfl rfl ?_
  refine ev_aload_n d_Addresses_readWords_27 rfl rfl ?_
  refine ev_iconst (v := (-1)) d_Addresses_readWords_28 (by decide) ?_
  refine ev_put (fp_Addresses_39 rfl rfl) d_Addresses_readWords_29 (hp_up_self _ _ _) (Nat.le_of_ble_eq_true rfl) rfl rfl ?_
  rw [hp_up_up]
  show ev_E G m_Addresses_readWords 32 _ _ (hp_up h1 (X + 18) (.inr (adO X 0 (-1) c))) _
  have S4 := aS_up S3 O3 0 (-1) c
  have O4 := aO_up O3 0 (-1) c
  have k4 : kR [X + 18] X h σ (hp_up h1 (X + 18) (.inr (adO X 0 (-1) c))) σ3 := kR_tr (kR_of (rwR_tr r1 (rwR_tr r2 r3))) (kR_up (by simp))
  generalize hp_up h1 (X + 18) (.inr (adO X 0 (-1) c)) = h4 at S4 O4 k4 ⊢
  obtain ⟨⟨a, b, c, hA4⟩, r, hW4⟩ := id O4
  refine ev_aload_n d_Addresses_readWords_32 rfl rfl ?_
  refine ev_Vn (ci := 5) [] [] ca_Addresses_readWords_63 d_Addresses_readWords_33 rfl (hA4) rfl (Nat.le_of_ble_eq_true rfl) (w_beginGathering S4 O4) (fun h1 z => ?_)
  obtain ⟨O5, σ5, S5, r5, p5⟩ := z
  refine ev_iconst (v := 0) d_Addresses_readWords_36 (by decide) ?_
  refine ev_istore_n d_Addresses_readWords_37 rfl (by decide) ?_
  refine ev_iconst (v := 0) d_Addresses_readWords_38 (by decide) ?_
  refine ev_istore_n d_Addresses_readWords_39 rfl (by decide) ?_
  refine ev_as [(0, .ref (X + 18)), (1, .int 0), (2, .int 0)] ⟨rfl, rfl, rfl, trivial⟩ (ev_to (l_areadWords hT _ 0 0 _ σ5 rfl S5 O5) ?_)
  rintro o h' ⟨rfl, p⟩
  exact ⟨rfl, aP_mk (kR_tr k4 r5) (fun τ hτ => (p5 τ hτ).trans (q3 τ hτ)) p⟩
end ADR7
