/-! the class: addresses, weak -/
abbrev adO (X : Nat) (a b c : Int32) : Nat × List Value := (5, [.ref (X + 10), .ref (X + 19), .ref (X + 24), .ref (X + 26), .ref (X + 31), .int a, .int b, .int c])
/-- the rows of addresses -/
abbrev adR : List Nat := [20, 22, 24, 27, 29, 31]
def aO (X : Nat) (h : hp_T) : Prop := (∃ a b c : Int32, h.2.2 (X + 18) = some (.inr (adO X a b c))) ∧ ∃ r : List Value, h.2.2 (X + 10) = some (.inr (4, .ref (X + 11) :: .ref (X + 16) :: r))
def aP (cI : ClassId) (X : Nat) (h : hp_T) (σ : rwT) : hp_T → Prop := fun h' => aO X h' ∧ ∃ σ', tS cI X h' σ' ∧ kR [X + 18] X h σ h' σ' ∧ ∀ τ, τ ∉ adR → (σ' τ).2.2 = (σ τ).2.2
section ADR6
variable {G : gl_G} {cI : ClassId} {X : Nat}
theorem aO_go {h h' : hp_T} {σ σ' : rwT} (S : tS cI X h σ) (r : rwR X h σ h' σ') (O : aO X h) : aO X h' := by
  obtain ⟨⟨a, b, c, h1⟩, q, h2⟩ := O
  have hX := S.1.2.2
  exact ⟨⟨a, b, c, rwR_obj S.1 r h1 (by omega) (nrow (by decide))⟩, q, rwR_obj S.1 r h2 (by omega) (nrow (by decide))⟩
theorem aO_up {h : hp_T} (O : aO X h) (a b c : Int32) : aO X (hp_up h (X + 18) (.inr (adO X a b c))) := by
  obtain ⟨-, q, h2⟩ := O
  exact ⟨⟨a, b, c, hp_up_self _ _ _⟩, q, by rw [hp_up_ne (by omega)]; exact h2⟩
theorem aS_up {h : hp_T} {σ : rwT} (S : tS cI X h σ) (O : aO X h) (a b c : Int32) : tS cI X (hp_up h (X + 18) (.inr (adO X a b c))) σ := by
  obtain ⟨⟨a', b', c', h1⟩, -⟩ := O
  exact tS_up S h1 (by decide) (by decide)
theorem aP_rf {h : hp_T} {σ : rwT} (S : tS cI X h σ) (O : aO X h) : aP cI X h σ h := ⟨O, σ, S, kR_rf, fun _ _ => rfl⟩
theorem aP_mk {h h1 h' : hp_T} {σ σ1 : rwT} (r : kR [X + 18] X h σ h1 σ1) (hs : ∀ τ, τ ∉ adR → (σ1 τ).2.2 = (σ τ).2.2) (p : aP cI X h1 σ1 h') : aP cI X h σ h' := by
  obtain ⟨O, σ', p1, p2, p3⟩ := p
  exact ⟨O, σ', p1, kR_tr r p2, fun τ hτ => (p3 τ hτ).trans (hs τ hτ)⟩
theorem aP_w {h h' : hp_T} {σ : rwT} {ρs : List Nat} {K : rwT → Prop} (S : tS cI X h σ) (O : aO X h) (p : tP cI X h σ ρs K h') (hs : ∀ τ ∈ ρs, τ ∈ adR) : aP cI X h σ h' := by
  obtain ⟨σ', p1, p2, p3, -⟩ := p
  exact ⟨aO_go S p2 O, σ', p1, kR_of p2, fun τ hτ => p3 τ (fun z => hτ (hs τ z))⟩
theorem w_wkinds {h : hp_T} {r : List Value} (hW : h.2.2 (X + 10) = some (.inr (4, .ref (X + 11) :: .ref (X + 16) :: r))) : ct_E G m_Words_kinds [.ref (X + 10)] h (cv (.ref (X + 16)) h) := by
  refine ct_of (ws' := tb_all) rfl rfl (Nat.le_of_ble_eq_true rfl) ?_
  refine ev_aload_n d_Words_kinds_0 rfl rfl ?_
  refine ev_get (fa_Words_21 rfl rfl) d_Words_kinds_1 hW rfl ?_
  refine ev_aret d_Words_kinds_4 rfl (Or.inl ⟨_, rfl⟩) ?_
  exact ⟨rfl, rfl⟩
theorem w_wtexts {h : hp_T} {r : List Value} (hW : h.2.2 (X + 10) = some (.inr (4, .ref (X + 11) :: .ref (X + 16) :: r))) : ct_E G m_Words_texts [.ref (X + 10)] h (cv (.ref (X + 11)) h) := by
  refine ct_of (ws' := tb_all) rfl rfl (Nat.le_of_ble_eq_true rfl) ?_
  refine ev_aload_n d_Words_texts_0 rfl rfl ?_
  refine ev_get (fa_Words_12 rfl rfl) d_Words_texts_1 hW rfl ?_
  refine ev_aret d_Words_texts_4 rfl (Or.inl ⟨_, rfl⟩) ?_
  exact ⟨rfl, rfl⟩
theorem w_kindAt (hT : (gl_t G)[0]? = some (cI, .int)) {h : hp_T} {σ : rwT} (S : tS cI X h σ) (O : aO X h) (i : Int32) : ct_E G m_Addresses_kindAt [.ref (X + 18), .int i] h (pu h) := by
  have m16 : (16 : Nat) ∈ rws := by decide
  have m31 : (31 : Nat) ∈ rws := by decide
  obtain ⟨⟨a, b, c, hA⟩, r, hW⟩ := id O
  refine ct_of (ws' := tb_all) rfl rfl (Nat.le_of_ble_eq_true rfl) ?_
  refine ev_aload_n d_Addresses_kindAt_0 rfl rfl ?_
  refine ev_get (fa_Addresses_9 rfl rfl) d_Addresses_kindAt_1 hA rfl ?_
  refine ev_Vv (ci := 4) [] [] ca_Addresses_kindAt_66 d_Addresses_kindAt_4 rfl (hW) rfl (Nat.le_of_ble_eq_true rfl) (w_wkinds hW) ?_
  refine ev_aload_n d_Addresses_kindAt_7 rfl rfl ?_
  refine ev_get (fa_Addresses_32 rfl rfl) d_Addresses_kindAt_8 hA rfl ?_
  refine ev_iload_n d_Addresses_kindAt_11 rfl rfl ?_
  refine ev_Vv (ci := 1) [.int i] [.ref (X + 16)] ca_Addresses_kindAt_49 d_Addresses_kindAt_12 rfl ((S.1.1 _ m31).1.1) rfl (Nat.le_of_ble_eq_true rfl) (w_get hT S.1 m31 i) ?_
  refine ev_Vv (ci := 1) [.int _] [] ca_Addresses_kindAt_49 d_Addresses_kindAt_15 rfl ((S.1.1 _ m16).1.1) rfl (Nat.le_of_ble_eq_true rfl) (w_get hT S.1 m16 _) ?_
  refine ev_iret d_Addresses_kindAt_18 rfl ?_
  exact ⟨_, rfl, ⟨_, rfl⟩, rfl⟩
theorem l_firstOpen (hT : (gl_t G)[0]? = some (cI, .int)) {h : hp_T} {σ : rwT} (S : tS cI X h σ) (O : aO X h) : ∀ (d : Nat) (i : Int32), ((nI (σ 31).2.2.length).toInt - i.toInt).toNat = d → ev_E G m_Addresses_firstOpen 2 [(0, .ref (X + 18)), (1, .int i)] [] h (pu h) := by
  have m31 : (31 : Nat) ∈ rws := by decide
  obtain ⟨⟨a, b, c, hA⟩, r, hW⟩ := id O
  intro d
  induction d using Nat.strongRecOn with
  | ind d ih =>
    intro i hd
    refine ev_iload_n d_Addresses_firstOpen_2 rfl rfl ?_
    refine ev_aload_n d_Addresses_firstOpen_3 rfl rfl ?_
    refine ev_get (fa_Addresses_32 rfl rfl) d_Addresses_firstOpen_4 hA rfl ?_
    refine ev_Vv (ci := 1) [] [.int i] ca_Addresses_firstOpen_45 d_Addresses_firstOpen_7 rfl ((S.1.1 _ m31).1.1) rfl (Nat.le_of_ble_eq_true rfl) (w_size S.1 m31) ?_
    refine ev_icmp_ge (tgt := 31) d_Addresses_firstOpen_10 (by decide) (fun c_10 => ?_) (fun c_10 => ?_)
    · refine ev_iconst (v := (-1)) d_Addresses_firstOpen_31 (by decide) ?_
      refine ev_iret d_Addresses_firstOpen_32 rfl ?_
      exact ⟨_, rfl, ⟨_, rfl⟩, rfl⟩
    · have e1 := i32_s c_10
      have e2 := i32_lt c_10
      refine ev_aload_n d_Addresses_firstOpen_13 rfl rfl ?_
      refine ev_iload_n d_Addresses_firstOpen_14 rfl rfl ?_
      refine ev_Vr (ci := 5) [.int i] [] ca_Addresses_firstOpen_100 d_Addresses_firstOpen_15 rfl (hA) rfl (Nat.le_of_ble_eq_true rfl) (w_kindAt hT S O i) (fun v h1 z => ?_)
      obtain ⟨⟨q, rfl⟩, z⟩ := z
      obtain rfl := z.symm
      refine ev_bipush (v := 60) d_Addresses_firstOpen_18 (by decide) ?_
      refine ev_icmp_ne (tgt := 25) d_Addresses_firstOpen_20 (by decide) (fun c_20 => ?_) (fun c_20 => ?_)
      · refine ev_iinc d_Addresses_firstOpen_25 rfl (by decide) ?_
        refine ev_goto (tgt := 2) d_Addresses_firstOpen_28 (by decide) ?_
        exact ih _ (by show (_ - (i + 1).toInt).toNat < d; rw [e1]; omega) (i + 1) rfl
      · refine ev_iload_n d_Addresses_firstOpen_23 rfl rfl ?_
        refine ev_iret d_Addresses_firstOpen_24 rfl ?_
        exact ⟨_, rfl, ⟨_, rfl⟩, rfl⟩
theorem w_firstOpen (hT : (gl_t G)[0]? = some (cI, .int)) {h : hp_T} {σ : rwT} (S : tS cI X h σ) (O : aO X h) : ct_E G m_Addresses_firstOpen [.ref (X + 18)] h (pu h) := by
  refine ct_of (ws' := tb_all) rfl rfl (Nat.le_of_ble_eq_true rfl) ?_
  refine ev_iconst (v := 0) d_Addresses_firstOpen_0 (by decide) ?_
  refine ev_istore_n d_Addresses_firstOpen_1 rfl (by decide) ?_
  exact l_firstOpen hT S O _ _ rfl
theorem l_isName (hT : (gl_t G)[0]? = some (cI, .int)) {h : hp_T} {σ : rwT} (S : tS cI X h σ) (O : aO X h) {t : Int32} : ∀ (d : Nat) (i : Int32), (t.toInt - i.toInt).toNat = d → ev_E G m_Addresses_isName 2 [(0, .ref (X + 18)), (1, .int t), (2, .int i)] [] h (pu h) := by
  obtain ⟨⟨a, b, c, hA⟩, r, hW⟩ := id O
  intro d
  induction d using Nat.strongRecOn with
  | ind d ih =>
    intro i hd
    refine ev_iload_n d_Addresses_isName_2 rfl rfl ?_
    refine ev_iload_n d_Addresses_isName_3 rfl rfl ?_
    refine ev_icmp_ge (tgt := 37) d_Addresses_isName_4 (by decide) (fun c_4 => ?_) (fun c_4 => ?_)
    · refine ev_iconst (v := 1) d_Addresses_isName_37 (by decide) ?_
      refine ev_zret d_Addresses_isName_38 rfl rfl ?_
      exact ⟨_, rfl, ⟨_, rfl⟩, rfl⟩
    · have e1 := i32_s c_4
      have e2 := i32_lt c_4
      refine ev_aload_n d_Addresses_isName_7 rfl rfl ?_
      refine ev_iload_n d_Addresses_isName_8 rfl rfl ?_
      refine ev_Vr (ci := 5) [.int i] [] ca_Addresses_isName_100 d_Addresses_isName_9 rfl (hA) rfl (Nat.le_of_ble_eq_true rfl) (w_kindAt hT S O i) (fun v h1 z => ?_)
      obtain ⟨⟨q, rfl⟩, z⟩ := z
      obtain rfl := z.symm
      have on : ev_E G m_Addresses_isName 31 [(0, .ref (X + 18)), (1, .int t), (2, .int i), (3, .int q)] [] h (pu h) := by
        refine ev_iinc d_Addresses_isName_31 rfl (by decide) ?_
        refine ev_goto (tgt := 2) d_Addresses_isName_34 (by decide) ?_
        exact ev_as [(0, .ref (X + 18)), (1, .int t), (2, .int (i + 1))] ⟨rfl, rfl, rfl, trivial⟩ (ih _ (by rw [e1]; omega) (i + 1) rfl)
      refine ev_istore_n d_Addresses_isName_12 rfl (by decide) ?_
      refine ev_iload_n d_Addresses_isName_13 rfl rfl ?_
      refine ev_iconst (v := 1) d_Addresses_isName_14 (by decide) ?_
      refine ev_icmp_eq (tgt := 31) d_Addresses_isName_15 (by decide) (fun c_15 => ?_) (fun c_15 => ?_)
      · exact on
      · refine ev_iload_n d_Addresses_isName_18 rfl rfl ?_
        refine ev_iconst (v := 2) d_Addresses_isName_19 (by decide) ?_
        refine ev_icmp_eq (tgt := 31) d_Addresses_isName_20 (by decide) (fun c_20 => ?_) (fun c_20 => ?_)
        · exact on
        · refine ev_iload_n d_Addresses_isName_23 rfl rfl ?_
          refine ev_bipush (v := 46) d_Addresses_isName_24 (by decide) ?_
          refine ev_icmp_eq (tgt := 31) d_Addresses_isName_26 (by decide) (fun c_26 => ?_) (fun c_26 => ?_)
          · exact on
          · refine ev_iconst (v := 0) d_Addresses_isName_29 (by decide) ?_
            refine ev_zret d_Addresses_isName_30 rfl rfl ?_
            exact ⟨_, rfl, ⟨_, rfl⟩, rfl⟩
theorem w_isName (hT : (gl_t G)[0]? = some (cI, .int)) {h : hp_T} {σ : rwT} (S : tS cI X h σ) (O : aO X h) (t : Int32) : ct_E G m_Addresses_isName [.ref (X + 18), .int t] h (pu h) := by
  refine ct_of (ws' := tb_all) rfl rfl (Nat.le_of_ble_eq_true rfl) ?_
  refine ev_iconst (v := 0) d_Addresses_isName_0 (by decide) ?_
  refine ev_istore_n d_Addresses_isName_1 rfl (by decide) ?_
  exact l_isName hT S O _ _ rfl
theorem l_behindRoute (hT : (gl_t G)[0]? = some (cI, .int)) {h : hp_T} {σ : rwT} (S : tS cI X h σ) (O : aO X h) {f t : Int32} : ∀ (d : Nat) (i : Int32), (t.toInt - i.toInt).toNat = d → ev_E G m_Addresses_behindRoute 2 [(0, .ref (X + 18)), (1, .int f), (2, .int t), (3, .int i)] [] h (pu h) := by
  obtain ⟨⟨a, b, c, hA⟩, r, hW⟩ := id O
  intro d
  induction d using Nat.strongRecOn with
  | ind d ih =>
    intro i hd
    refine ev_iload_n d_Addresses_behindRoute_2 rfl rfl ?_
    refine ev_iload_n d_Addresses_behindRoute_3 rfl rfl ?_
    refine ev_icmp_ge (tgt := 60) d_Addresses_behindRoute_4 (by decide) (fun c_4 => ?_) (fun c_4 => ?_)
    · refine ev_iload_n d_Addresses_behindRoute_60 rfl rfl ?_
      refine ev_iret d_Addresses_behindRoute_61 rfl ?_
      exact ⟨_, rfl, ⟨_, rfl⟩, rfl⟩
    · have e1 := i32_s c_4
      have e2 := i32_lt c_4
      refine ev_aload_n d_Addresses_behindRoute_7 rfl rfl ?_
      refine ev_iload_n d_Addresses_behindRoute_8 rfl rfl ?_
      refine ev_Vr (ci := 5) [.int i] [] ca_Addresses_behindRoute_100 d_Addresses_behindRoute_9 rfl (hA) rfl (Nat.le_of_ble_eq_true rfl) (w_kindAt hT S O i) (fun v h1 z => ?_)
      obtain ⟨⟨q, rfl⟩, z⟩ := z
      obtain rfl := z.symm
      have on : ev_E G m_Addresses_behindRoute 54 [(0, .ref (X + 18)), (1, .int f), (2, .int t), (3, .int i), (4, .int q)] [] h (pu h) := by
        refine ev_iinc d_Addresses_behindRoute_54 rfl (by decide) ?_
        refine ev_goto (tgt := 2) d_Addresses_behindRoute_57 (by decide) ?_
        exact ev_as [(0, .ref (X + 18)), (1, .int f), (2, .int t), (3, .int (i + 1))] ⟨rfl, rfl, rfl, rfl, trivial⟩ (ih _ (by rw [e1]; omega) (i + 1) rfl)
      refine ev_istore d_Addresses_behindRoute_12 (by decide) ?_
      refine ev_iload d_Addresses_behindRoute_14 rfl ?_
      refine ev_bipush (v := 58) d_Addresses_behindRoute_16 (by decide) ?_
      refine ev_icmp_ne (tgt := 25) d_Addresses_behindRoute_18 (by decide) (fun c_18 => ?_) (fun c_18 => ?_)
      · refine ev_iload d_Addresses_behindRoute_25 rfl ?_
        refine ev_bipush (v := 64) d_Addresses_behindRoute_27 (by decide) ?_
        refine ev_icmp_eq (tgt := 54) d_Addresses_behindRoute_29 (by decide) (fun c_29 => ?_) (fun c_29 => ?_)
        · exact on
        · refine ev_iload d_Addresses_behindRoute_32 rfl ?_
          refine ev_bipush (v := 44) d_Addresses_behindRoute_34 (by decide) ?_
          refine ev_icmp_eq (tgt := 54) d_Addresses_behindRoute_36 (by decide) (fun c_36 => ?_) (fun c_36 => ?_)
          · exact on
          · refine ev_iload d_Addresses_behindRoute_39 rfl ?_
            refine ev_bipush (v := 46) d_Addresses_behindRoute_41 (by decide) ?_
            refine ev_icmp_eq (tgt := 54) d_Addresses_behindRoute_43 (by decide) (fun c_43 => ?_) (fun c_43 => ?_)
            · exact on
            · refine ev_iload d_Addresses_behindRoute_46 rfl ?_
              refine ev_iconst (v := 1) d_Addresses_behindRoute_48 (by decide) ?_
              refine ev_icmp_eq (tgt := 54) d_Addresses_behindRoute_49 (by decide) (fun c_49 => ?_) (fun c_49 => ?_)
              · exact on
              · refine ev_iload_n d_Addresses_behindRoute_52 rfl rfl ?_
                refine ev_iret d_Addresses_behindRoute_53 rfl ?_
                exact ⟨_, rfl, ⟨_, rfl⟩, rfl⟩
      · refine ev_iload_n d_Addresses_behindRoute_21 rfl rfl ?_
        refine ev_iconst (v := 1) d_Addresses_behindRoute_22 (by decide) ?_
        refine ev_iadd d_Addresses_behindRoute_23 ?_
        refine ev_iret d_Addresses_behindRoute_24 rfl ?_
        exact ⟨_, rfl, ⟨_, rfl⟩, rfl⟩
theorem w_behindRoute (hT : (gl_t G)[0]? = some (cI, .int)) {h : hp_T} {σ : rwT} (S : tS cI X h σ) (O : aO X h) (f t : Int32) : ct_E G m_Addresses_behindRoute [.ref (X + 18), .int f, .int t] h (pu h) := by
  refine ct_of (ws' := tb_all) rfl rfl (Nat.le_of_ble_eq_true rfl) ?_
  refine ev_iload_n d_Addresses_behindRoute_0 rfl rfl ?_
  refine ev_istore_n d_Addresses_behindRoute_1 rfl (by decide) ?_
  exact l_behindRoute hT S O _ _ rfl
theorem l_dottedEnd (hT : (gl_t G)[0]? = some (cI, .int)) {h : hp_T} {σ : rwT} (S : tS cI X h σ) (O : aO X h) {f t b3 : Int32} : ∀ (d : Nat) (i : Int32), (t.toInt - i.toInt).toNat = d → ev_E G m_Addresses_dottedEnd 3 [(0, .ref (X + 18)), (1, .int f), (2, .int t), (3, .int b3), (4, .int i)] [] h (pu h) := by
  obtain ⟨⟨a, b, c, hA⟩, r, hW⟩ := id O
  intro d
  induction d using Nat.strongRecOn with
  | ind d ih =>
    intro i hd
    refine ev_iload d_Addresses_dottedEnd_3 rfl ?_
    refine ev_iload_n d_Addresses_dottedEnd_5 rfl rfl ?_
    refine ev_icmp_ge (tgt := 67) d_Addresses_dottedEnd_6 (by decide) (fun c_6 => ?_) (fun c_6 => ?_)
    · refine ev_iconst (v := (-1)) d_Addresses_dottedEnd_67 (by decide) ?_
      refine ev_iret d_Addresses_dottedEnd_68 rfl ?_
      exact ⟨_, rfl, ⟨_, rfl⟩, rfl⟩
    · have e1 := i32_s c_6
      have e2 := i32_lt c_6
      refine ev_aload_n d_Addresses_dottedEnd_9 rfl rfl ?_
      refine ev_iload d_Addresses_dottedEnd_10 rfl ?_
      refine ev_Vr (ci := 5) [.int i] [] ca_Addresses_dottedEnd_100 d_Addresses_dottedEnd_12 rfl (hA) rfl (Nat.le_of_ble_eq_true rfl) (w_kindAt hT S O i) (fun v h1 z => ?_)
      obtain ⟨⟨q, rfl⟩, z⟩ := z
      obtain rfl := z.symm
      have no : ev_E G m_Addresses_dottedEnd 33 [(0, .ref (X + 18)), (1, .int f), (2, .int t), (3, .int b3), (4, .int i), (5, .int q)] [] h (pu h) := by
        refine ev_iconst (v := (-1)) d_Addresses_dottedEnd_33 (by decide) ?_
        refine ev_iret d_Addresses_dottedEnd_34 rfl ?_
        exact ⟨_, rfl, ⟨_, rfl⟩, rfl⟩
      have en : ev_E G m_Addresses_dottedEnd 56 [(0, .ref (X + 18)), (1, .int f), (2, .int t), (3, .int b3), (4, .int i), (5, .int q)] [] h (pu h) := by
        refine ev_iload d_Addresses_dottedEnd_56 rfl ?_
        refine ev_iconst (v := 1) d_Addresses_dottedEnd_58 (by decide) ?_
        refine ev_iadd d_Addresses_dottedEnd_59 ?_
        refine ev_iret d_Addresses_dottedEnd_60 rfl ?_
        exact ⟨_, rfl, ⟨_, rfl⟩, rfl⟩
      have a35 : ev_E G m_Addresses_dottedEnd 35 [(0, .ref (X + 18)), (1, .int f), (2, .int t), (3, .int b3), (4, .int i), (5, .int q)] [] h (pu h) := by
        refine ev_iload d_Addresses_dottedEnd_35 rfl ?_
        refine ev_iconst (v := 1) d_Addresses_dottedEnd_37 (by decide) ?_
        refine ev_iadd d_Addresses_dottedEnd_38 ?_
        refine ev_iload_n d_Addresses_dottedEnd_39 rfl rfl ?_
        refine ev_icmp_ge (tgt := 56) d_Addresses_dottedEnd_40 (by decide) (fun c_40 => ?_) (fun c_40 => ?_)
        · exact en
        · have e3 := i32_s2 c_6 c_40
          have e4 := i32_lt c_40
          refine ev_aload_n d_Addresses_dottedEnd_43 rfl rfl ?_
          refine ev_iload d_Addresses_dottedEnd_44 rfl ?_
          refine ev_iconst (v := 1) d_Addresses_dottedEnd_46 (by decide) ?_
          refine ev_iadd d_Addresses_dottedEnd_47 ?_
          refine ev_Vr (ci := 5) [.int _] [] ca_Addresses_dottedEnd_100 d_Addresses_dottedEnd_48 rfl (hA) rfl (Nat.le_of_ble_eq_true rfl) (w_kindAt hT S O _) (fun v h1 z => ?_)
          obtain ⟨⟨q2, rfl⟩, z⟩ := z
          obtain rfl := z.symm
          refine ev_bipush (v := 46) d_Addresses_dottedEnd_51 (by decide) ?_
          refine ev_icmp_eq (tgt := 61) d_Addresses_dottedEnd_53 (by decide) (fun c_53 => ?_) (fun c_53 => ?_)
          · refine ev_iinc d_Addresses_dottedEnd_61 rfl (by decide) ?_
            refine ev_goto (tgt := 3) d_Addresses_dottedEnd_64 (by decide) ?_
            exact ev_as [(0, .ref (X + 18)), (1, .int f), (2, .int t), (3, .int b3), (4, .int (i + 2))] ⟨rfl, rfl, rfl, rfl, rfl, trivial⟩ (ih _ (by rw [e3]; omega) (i + 2) rfl)
          · exact en
      refine ev_istore d_Addresses_dottedEnd_15 (by decide) ?_
      refine ev_iload d_Addresses_dottedEnd_17 rfl ?_
      refine ev_iconst (v := 1) d_Addresses_dottedEnd_19 (by decide) ?_
      refine ev_icmp_eq (tgt := 35) d_Addresses_dottedEnd_20 (by decide) (fun c_20 => ?_) (fun c_20 => ?_)
      · exact a35
      · refine ev_iload_n d_Addresses_dottedEnd_23 rfl rfl ?_
        refine ev_if_eq (tgt := 33) d_Addresses_dottedEnd_24 (by decide) (fun c_24 => ?_) (fun c_24 => ?_)
        · exact no
        · refine ev_iload d_Addresses_dottedEnd_27 rfl ?_
          refine ev_iconst (v := 2) d_Addresses_dottedEnd_29 (by decide) ?_
          refine ev_icmp_eq (tgt := 35) d_Addresses_dottedEnd_30 (by decide) (fun c_30 => ?_) (fun c_30 => ?_)
          · exact a35
          · exact no
theorem w_dottedEnd (hT : (gl_t G)[0]? = some (cI, .int)) {h : hp_T} {σ : rwT} (S : tS cI X h σ) (O : aO X h) (f t b : Int32) : ct_E G m_Addresses_dottedEnd [.ref (X + 18), .int f, .int t, .int b] h (pu h) := by
  refine ct_of (ws' := tb_all) rfl rfl (Nat.le_of_ble_eq_true rfl) ?_
  refine ev_iload_n d_Addresses_dottedEnd_0 rfl rfl ?_
  refine ev_istore d_Addresses_dottedEnd_1 (by decide) ?_
  exact l_dottedEnd hT S O _ _ rfl
theorem w_isDomainBehind (hT : (gl_t G)[0]? = some (cI, .int)) {h : hp_T} {σ : rwT} (S : tS cI X h σ) (O : aO X h) (s t : Int32) : ct_E G m_Addresses_isDomainBehind [.ref (X + 18), .int s, .int t] h (pu h) := by
  obtain ⟨⟨a, b, c, hA⟩, r, hW⟩ := id O
  refine ct_of (ws' := tb_all) rfl rfl (Nat.le_of_ble_eq_true rfl) ?_
  refine ev_iload_n d_Addresses_isDomainBehind_0 rfl rfl ?_
  refine ev_iconst (v := 1) d_Addresses_isDomainBehind_1 (by decide) ?_
  refine ev_iadd d_Addresses_isDomainBehind_2 ?_
  refine ev_istore_n d_Addresses_isDomainBehind_3 rfl (by decide) ?_
  refine ev_aload_n d_Addresses_isDomainBehind_4 rfl rfl ?_
  refine ev_iload_n d_Addresses_isDomainBehind_5 rfl rfl ?_
  refine ev_Vr (ci := 5) [.int s] [] ca_Addresses_isDomainBehind_100 d_Addresses_isDomainBehind_6 rfl (hA) rfl (Nat.le_of_ble_eq_true rfl) (w_kindAt hT S O s) (fun v h1 z => ?_)
  obtain ⟨⟨q, rfl⟩, z⟩ := z
  obtain rfl := z.symm
  refine ev_bipush (v := 64) d_Addresses_isDomainBehind_9 (by decide) ?_
  have a34 : ev_E G m_Addresses_isDomainBehind 34 [(0, .ref (X + 18)), (1, .int s), (2, .int t), (3, .int (s + 1))] [] h (pu h) := by
    refine ev_aload_n d_Addresses_isDomainBehind_34 rfl rfl ?_
    refine ev_iload_n d_Addresses_isDomainBehind_35 rfl rfl ?_
    refine ev_iload_n d_Addresses_isDomainBehind_36 rfl rfl ?_
    refine ev_iconst (v := 0) d_Addresses_isDomainBehind_37 (by decide) ?_
    refine ev_Vr (ci := 5) [.int (s + 1), .int t, .int 0] [] ca_Addresses_isDomainBehind_107 d_Addresses_isDomainBehind_38 rfl (hA) rfl (Nat.le_of_ble_eq_true rfl) (w_dottedEnd hT S O (s + 1) t 0) (fun v h1 z => ?_)
    obtain ⟨⟨q, rfl⟩, z⟩ := z
    obtain rfl := z.symm
    refine ev_iload_n d_Addresses_isDomainBehind_41 rfl rfl ?_
    refine ev_icmp_ne (tgt := 49) d_Addresses_isDomainBehind_42 (by decide) (fun c_42 => ?_) (fun c_42 => ?_)
    · refine ev_iconst (v := 0) d_Addresses_isDomainBehind_49 (by decide) ?_
      refine ev_zret d_Addresses_isDomainBehind_50 rfl rfl ?_
      exact ⟨_, rfl, ⟨_, rfl⟩, rfl⟩
    · refine ev_iconst (v := 1) d_Addresses_isDomainBehind_45 (by decide) ?_
      refine ev_goto (tgt := 50) d_Addresses_isDomainBehind_46 (by decide) ?_
      refine ev_zret d_Addresses_isDomainBehind_50 rfl rfl ?_
      exact ⟨_, rfl, ⟨_, rfl⟩, rfl⟩
  refine ev_icmp_eq (tgt := 16) d_Addresses_isDomainBehind_11 (by decide) (fun c_11 => ?_) (fun c_11 => ?_)
  · refine ev_iload_n d_Addresses_isDomainBehind_16 rfl rfl ?_
    refine ev_iload_n d_Addresses_isDomainBehind_17 rfl rfl ?_
    refine ev_isub d_Addresses_isDomainBehind_18 ?_
    refine ev_iconst (v := 1) d_Addresses_isDomainBehind_19 (by decide) ?_
    refine ev_icmp_ne (tgt := 34) d_Addresses_isDomainBehind_20 (by decide) (fun c_20 => ?_) (fun c_20 => ?_)
    · exact a34
    · refine ev_aload_n d_Addresses_isDomainBehind_23 rfl rfl ?_
      refine ev_iload_n d_Addresses_isDomainBehind_24 rfl rfl ?_
      refine ev_Vr (ci := 5) [.int _] [] ca_Addresses_isDomainBehind_100 d_Addresses_isDomainBehind_25 rfl (hA) rfl (Nat.le_of_ble_eq_true rfl) (w_kindAt hT S O _) (fun v h1 z => ?_)
      obtain ⟨⟨q, rfl⟩, z⟩ := z
      obtain rfl := z.symm
      refine ev_iconst (v := 3) d_Addresses_isDomainBehind_28 (by decide) ?_
      refine ev_icmp_ne (tgt := 34) d_Addresses_isDomainBehind_29 (by decide) (fun c_29 => ?_) (fun c_29 => ?_)
      · exact a34
      · refine ev_iconst (v := 1) d_Addresses_isDomainBehind_32 (by decide) ?_
        refine ev_zret d_Addresses_isDomainBehind_33 rfl rfl ?_
        exact ⟨_, rfl, ⟨_, rfl⟩, rfl⟩
  · refine ev_iconst (v := 0) d_Addresses_isDomainBehind_14 (by decide) ?_
    refine ev_zret d_Addresses_isDomainBehind_15 rfl rfl ?_
    exact ⟨_, rfl, ⟨_, rfl⟩, rfl⟩
end ADR6
