/-! the class: addresses, strong: the words one by one -/
theorem acS_aO {X : Nat} {h : hp_T} {σ : rwT} {s : adT} {c : Int32} (B : acS X h σ s c) (O : aO X h) : aO X h := ⟨⟨_, _, _, B.1⟩, O.2⟩
section ACL4
variable {G : gl_G} {cI : ClassId} {X : Nat}
/-- behind a call: s of the addresses, g gathered, c the comment -/
def acP (cI : ClassId) (X : Nat) (h : hp_T) (σ : rwT) (W : Wds) (s : adT) (g : Wds) (c : Int32) : hp_T → Prop := fun h' => aO X h' ∧ ∃ σ', tS cI X h' σ' ∧ kR [X + 18] X h σ h' σ' ∧ (∀ τ, τ ∉ adR → (σ' τ).2.2 = (σ τ).2.2) ∧ acS X h' σ' s c ∧ acW σ' W g
theorem acP_mk {h h1 h' : hp_T} {σ σ1 : rwT} {W g : Wds} {s : adT} {c : Int32} (r : kR [X + 18] X h σ h1 σ1) (hs : ∀ τ, τ ∉ adR → (σ1 τ).2.2 = (σ τ).2.2) (p : acP cI X h1 σ1 W s g c h') : acP cI X h σ W s g c h' := by
  obtain ⟨O, σ', p1, p2, p3, p4⟩ := p
  exact ⟨O, σ', p1, kR_tr r p2, fun τ hτ => (p3 τ hτ).trans (hs τ hτ), p4⟩
/-- the object's numbers changed alone -/
theorem acS_up {h : hp_T} {σ : rwT} {s s' : adT} {c c' : Int32} (B : acS X h σ s c) (h1 : s'.1 = s.1) (h2 : s'.2.1 = s.2.1) : acS X (hp_up h (X + 18) (.inr (adO X (nI s'.2.2.1) s'.2.2.2 c'))) σ s' c' := by
  obtain ⟨-, B1, B2, B3⟩ := B
  exact ⟨hp_up_self _ _ _, by rw [h1]; exact B1, by rw [h2]; exact B2, by rw [h1]; exact B3⟩
theorem z_beginGathering {h : hp_T} {σ : rwT} (S : tS cI X h σ) (O : aO X h) {W g : Wds} (A : acW σ W g) {s : adT} {c : Int32} (B : acS X h σ s c) : ct_E G m_Addresses_beginGathering [.ref (X + 18)] h (cn (acP cI X h σ W s [] (-1))) := by
  have m31 : (31 : Nat) ∈ rws := by decide
  have hX := S.1.2.2
  have hA := B.1
  refine ct_of (ws' := tb_all) rfl rfl (Nat.le_of_ble_eq_true rfl) ?_
  refine ev_aload_n d_Addresses_beginGathering_0 rfl rfl ?_
  refine ev_get (fa_Addresses_32 rfl rfl) d_Addresses_beginGathering_1 hA rfl ?_
  refine ev_iconst (v := 0) d_Addresses_beginGathering_4 (by decide) ?_
  refine ev_Vn (ci := 1) [.int 0] [] ca_Addresses_beginGathering_59 d_Addresses_beginGathering_5 rfl ((S.1.1 _ m31).1.1) rfl (Nat.le_of_ble_eq_true rfl) (w_rcut S m31 0) (fun h1 z => ?_)
  obtain ⟨σ1, S1, r1, p1, q1⟩ := z
  have O1 := aO_go S r1 O
  have hA1 := rwR_obj S.1 r1 hA (by omega) (nrow (by decide))
  have B1 : acS X h1 σ1 s c := ⟨hA1, txH_same B.2.1 (p1 20 (by decide)) (p1 22 (by decide)), txH_same B.2.2.1 (p1 27 (by decide)) (p1 29 (by decide)), (p1 24 (by decide)).trans B.2.2.2⟩
  refine ev_aload_n d_Addresses_beginGathering_8 rfl rfl ?_
  refine ev_iconst (v := (-1)) d_Addresses_beginGathering_9 (by decide) ?_
  refine ev_put (fp_Addresses_42 rfl rfl) d_Addresses_beginGathering_10 hA1 (Nat.le_of_ble_eq_true rfl) rfl rfl ?_
  refine ev_vret d_Addresses_beginGathering_13 rfl ?_
  refine ⟨rfl, aO_up O1 _ _ (-1), σ1, aS_up S1 O1 _ _ (-1), kR_tr (kR_of r1) (kR_up (by simp)), sub1 p1 (by decide), acS_up B1 rfl rfl, ?_⟩
  refine ⟨⟨txH_same A.1.1 (p1 12 (by decide)) (p1 14 (by decide)), (p1 16 (by decide)).trans A.1.2⟩, ⟨[], ?_, rfl⟩, A.2.2⟩
  rw [q1]
  rfl
theorem z_atakeColon (hT : (gl_t G)[0]? = some (cI, .int)) {h : hp_T} {σ : rwT} (S : tS cI X h σ) (O : aO X h) {W g : Wds} (A : acW σ W g) {s : adT} {c : Int32} (B : acS X h σ s c) (hb : s.2.1.flatten.length + eW g < 4096) (hl : s.2.1.length + 2 < 4096) : ct_E G m_Addresses_takeColon [.ref (X + 18)] h (cn (acP cI X h σ W (ad_col s g) g c)) := by
  have m31 : (31 : Nat) ∈ rws := by decide
  have m26 : (26 : Nat) ∈ txs := by decide
  have hX := S.1.2.2
  have hgl := ac_le S A
  have hA := B.1
  refine ct_of (ws' := tb_all) rfl rfl (Nat.le_of_ble_eq_true rfl) ?_
  refine ev_aload_n d_Addresses_takeColon_0 rfl rfl ?_
  refine ev_get (fa_Addresses_39 rfl rfl) d_Addresses_takeColon_1 hA rfl ?_
  refine ev_iconst (v := (-1)) d_Addresses_takeColon_4 (by decide) ?_
  by_cases hg : s.2.2.2 = -1
  · have ecol : ad_col s g = (s.1, s.2.1 ++ [bif ad_all g then ad_nT false g else []], bif ad_all g then s.2.2.1 else s.2.2.1 + 1, nI s.2.1.length) := if_pos hg
    refine ev_icmp_eq (tgt := 19) d_Addresses_takeColon_5 (by decide) (fun _ => ?_) (fun z => absurd hg z)
    -- the name stands open
    have a72 : ∀ (nm : List Int32) (bd : Nat) (h2 : hp_T) (σ2 : rwT), ad_col s g = (s.1, s.2.1 ++ [nm], bd, nI s.2.1.length) → tS cI X h2 σ2 → aO X h2 → kR [X + 18] X h σ h2 σ2 → (∀ τ, τ ∉ [27] → (σ2 τ).2.2 = (σ τ).2.2) → h2.2.2 (X + 18) = some (.inr (adO X (nI bd) (nI s.2.1.length) c)) → txH σ2 26 s.2.1 nm → ev_E G m_Addresses_takeColon 72 [(0, .ref (X + 18))] [] h2 (cn (acP cI X h σ W (ad_col s g) g c)) := by
      intro nm bd h2 σ2 ec S2 O2 r2 p2 hA2 H2
      refine ev_aload_n d_Addresses_takeColon_72 rfl rfl ?_
      refine ev_get (fa_Addresses_29 rfl rfl) d_Addresses_takeColon_73 hA2 rfl ?_
      refine ev_Vn (ci := 3) [] [] ca_Addresses_takeColon_94 d_Addresses_takeColon_76 rfl ((S2.2 26 m26)) rfl (Nat.le_of_ble_eq_true rfl) (y_close hT S2 m26 H2 (by omega)) (fun h1 z => ?_)
      obtain ⟨σ3, S3, r3, p3, H3⟩ := z
      have hA3 := rwR_obj S2.1 r3 hA2 (by have := S2.1.2.2; omega) (nrow (by decide))
      have p23 : ∀ τ, τ ∉ [27, 29] → (σ3 τ).2.2 = (σ τ).2.2 := fun τ hτ => (sub1 p3 (by decide) τ hτ).trans (sub1 p2 (by decide) τ hτ)
      refine ev_vret d_Addresses_takeColon_79 rfl ?_
      refine ⟨rfl, aO_go S2 r3 O2, σ3, S3, kR_tr r2 (kR_of r3), subL p23 (by decide), ?_, acW_same A (fun τ hτ => p23 τ (by revert τ; decide))⟩
      rw [ec]
      exact ⟨hA3, txH_same B.2.1 (p23 20 (by decide)) (p23 22 (by decide)), H3, (p23 24 (by decide)).trans B.2.2.2⟩
    have ecnt : nI (σ (26 + 3)).2.2.length - 1 = nI s.2.1.length := by
      rw [show (σ (26 + 3)).2.2 = bnT s.2.1 from B.2.2.1.2, bnT_len, nI_pred]
    refine ev_aload_n d_Addresses_takeColon_19 rfl rfl ?_
    refine ev_aload_n d_Addresses_takeColon_20 rfl rfl ?_
    refine ev_get (fa_Addresses_29 rfl rfl) d_Addresses_takeColon_21 hA rfl ?_
    refine ev_Vv (ci := 3) [] [.ref (X + 18)] ca_Addresses_takeColon_85 d_Addresses_takeColon_24 rfl ((S.2 26 m26)) rfl (Nat.le_of_ble_eq_true rfl) (c_Texts_count (tS_tx S m26)) ?_
    rw [ecnt]
    refine ev_put (fp_Addresses_39 rfl rfl) d_Addresses_takeColon_27 hA (Nat.le_of_ble_eq_true rfl) rfl rfl ?_
    show ev_E G m_Addresses_takeColon 30 _ _ (hp_up h (X + 18) (.inr (adO X (nI s.2.2.1) (nI s.2.1.length) c))) _
    have S2 := aS_up S O (nI s.2.2.1) (nI s.2.1.length) c
    have O2 := aO_up O (nI s.2.2.1) (nI s.2.1.length) c
    have r2 : kR [X + 18] X h σ (hp_up h (X + 18) (.inr (adO X (nI s.2.2.1) (nI s.2.1.length) c))) σ := kR_up (by simp)
    have hA2 : (hp_up h (X + 18) (.inr (adO X (nI s.2.2.1) (nI s.2.1.length) c))).2.2 (X + 18) = some (.inr (adO X (nI s.2.2.1) (nI s.2.1.length) c)) := hp_up_self _ _ _
    generalize hp_up h (X + 18) (.inr (adO X (nI s.2.2.1) (nI s.2.1.length) c)) = h2 at S2 O2 r2 hA2 ⊢
    refine ev_aload_n d_Addresses_takeColon_30 rfl rfl ?_
    refine ev_aload_n d_Addresses_takeColon_31 rfl rfl ?_
    refine ev_get (fa_Addresses_32 rfl rfl) d_Addresses_takeColon_32 hA2 rfl ?_
    refine ev_Vv (ci := 1) [] [.ref (X + 18)] ca_Addresses_takeColon_45 d_Addresses_takeColon_35 rfl ((S2.1.1 _ m31).1.1) rfl (Nat.le_of_ble_eq_true rfl) (w_size S2.1 m31) ?_
    rw [ga_len A.2.1]
    refine ev_Vv (ci := 5) [.int (nI g.length)] [] ca_Addresses_takeColon_86 d_Addresses_takeColon_38 rfl (hA2) rfl (Nat.le_of_ble_eq_true rfl) (z_isName hT S2 O2 A (Nat.le_refl _)) ?_
    rw [List.take_length]
    cases hal : ad_all g with
    | false =>
      refine ev_if_eq (tgt := 62) d_Addresses_takeColon_41 (by decide) (fun _ => ?_) (fun z => absurd rfl z)
      refine ev_aload_n d_Addresses_takeColon_62 rfl rfl ?_
      refine ev_dup d_Addresses_takeColon_63 rfl ?_
      refine ev_get (fa_Addresses_35 rfl rfl) d_Addresses_takeColon_64 hA2 rfl ?_
      refine ev_iconst (v := 1) d_Addresses_takeColon_67 (by decide) ?_
      refine ev_iadd d_Addresses_takeColon_68 ?_
      refine ev_put (fp_Addresses_35 rfl rfl) d_Addresses_takeColon_69 hA2 (Nat.le_of_ble_eq_true rfl) rfl rfl ?_
      rw [nI_1]
      show ev_E G m_Addresses_takeColon 72 _ _ (hp_up h2 (X + 18) (.inr (adO X (nI (s.2.2.1 + 1)) (nI s.2.1.length) c))) _
      refine a72 [] (s.2.2.1 + 1) _ σ (by rw [ecol, hal]; rfl) (aS_up S2 O2 _ _ _) (aO_up O2 _ _ _) (kR_tr r2 (kR_up (by simp))) (fun _ _ => rfl) (hp_up_self _ _ _) B.2.2.1
    | true =>
      refine ev_if_eq (tgt := 62) d_Addresses_takeColon_41 (by decide) (fun z => absurd (show (1 : Int32) = 0 from z) (by decide)) (fun _ => ?_)
      refine ev_aload_n d_Addresses_takeColon_44 rfl rfl ?_
      refine ev_aload_n d_Addresses_takeColon_45 rfl rfl ?_
      refine ev_get (fa_Addresses_29 rfl rfl) d_Addresses_takeColon_46 hA2 rfl ?_
      refine ev_aload_n d_Addresses_takeColon_49 rfl rfl ?_
      refine ev_get (fa_Addresses_32 rfl rfl) d_Addresses_takeColon_50 hA2 rfl ?_
      refine ev_Vv (ci := 1) [] [.ref (X + 26), .ref (X + 18)] ca_Addresses_takeColon_45 d_Addresses_takeColon_53 rfl ((S2.1.1 _ m31).1.1) rfl (Nat.le_of_ble_eq_true rfl) (w_size S2.1 m31) ?_
      rw [ga_len A.2.1]
      refine ev_Vn (ci := 5) [.ref (X + 26), .int (nI g.length)] [] ca_Addresses_takeColon_90 d_Addresses_takeColon_56 rfl (hA2) rfl (Nat.le_of_ble_eq_true rfl) (z_putName hT S2 O2 A (t := 26) (by decide) (Nat.le_refl _) B.2.2.1 (by rw [List.take_length]; exact hb)) (fun h1 z => ?_)
      obtain ⟨σ3, S3, r3, p3, H3⟩ := z
      rw [List.take_length] at H3
      refine ev_goto (tgt := 72) d_Addresses_takeColon_59 (by decide) ?_
      exact a72 (ad_nT false g) s.2.2.1 h1 σ3 (by rw [ecol, hal]; rfl) S3 (aO_go S2 r3 O2) (kR_tr r2 (kR_of r3)) p3 (rwR_obj S2.1 r3 hA2 (by have := S2.1.2.2; omega) (nrow (by decide))) H3
  · have ecol : ad_col s g = (s.1, s.2.1, s.2.2.1 + 1, s.2.2.2) := if_neg hg
    refine ev_icmp_eq (tgt := 19) d_Addresses_takeColon_5 (by decide) (fun z => absurd z hg) (fun _ => ?_)
    refine ev_aload_n d_Addresses_takeColon_8 rfl rfl ?_
    refine ev_dup d_Addresses_takeColon_9 rfl ?_
    refine ev_get (fa_Addresses_35 rfl rfl) d_Addresses_takeColon_10 hA rfl ?_
    refine ev_iconst (v := 1) d_Addresses_takeColon_13 (by decide) ?_
    refine ev_iadd d_Addresses_takeColon_14 ?_
    refine ev_put (fp_Addresses_35 rfl rfl) d_Addresses_takeColon_15 hA (Nat.le_of_ble_eq_true rfl) rfl rfl ?_
    rw [nI_1]
    show ev_E G m_Addresses_takeColon 18 _ _ (hp_up h (X + 18) (.inr (adO X (nI (s.2.2.1 + 1)) s.2.2.2 c))) _
    refine ev_vret d_Addresses_takeColon_18 rfl ?_
    rw [ecol]
    exact ⟨rfl, aO_up O _ _ _, σ, aS_up S O _ _ _, kR_up (by simp), fun _ _ => rfl, acS_up (s' := (s.1, s.2.1, s.2.2.1 + 1, s.2.2.2)) B rfl rfl, A⟩
theorem ad_box_e {s : adT} {g : Wds} {cm : List Int32} (hg : ¬ g = []) : ad_box s g cm = (mbL s g cm, s.2.1, (bif (ad_mb g cm).isSome then s.2.2.1 else s.2.2.1 + 1), s.2.2.2) := by
  unfold ad_box mbL
  cases g with
  | nil => exact absurd rfl hg
  | cons w t =>
    cases ad_mb (w :: t) cm with
    | none => rfl
    | some m => rfl
theorem z_takeGathered (hT : (gl_t G)[0]? = some (cI, .int)) {h : hp_T} {σ : rwT} (S : tS cI X h σ) (O : aO X h) {W g : Wds} (A : acW σ W g) {s : adT} {c : Int32} {cm : List Int32} (B : acS X h σ s c) (hc : cmS W c cm) (hb : (f3 s.1).flatten.length + cm.length + eW g < 4096) (hb2 : s.2.1.flatten.length + eW g < 4096) (hm : 3 * s.1.length + 4 < 4096) (hl : s.2.1.length + 2 < 4096) (sg : Int32) : ct_E G m_Addresses_takeGathered [.ref (X + 18), .int sg] h (cn (acP cI X h σ W (ad_take sg s g cm) [] (-1))) := by
  have m31 : (31 : Nat) ∈ rws := by decide
  have hX := S.1.2.2
  have hgl := ac_le S A
  have a40 : ∀ (s2 : adT) (h2 : hp_T) (σ2 : rwT), ad_take sg s g cm = ad_end sg s2 → tS cI X h2 σ2 → aO X h2 → kR [X + 18] X h σ h2 σ2 → (∀ τ, τ ∉ adR → (σ2 τ).2.2 = (σ τ).2.2) → acS X h2 σ2 s2 c → acW σ2 W g → ev_E G m_Addresses_takeGathered 40 [(0, .ref (X + 18)), (1, .int sg)] [] h2 (cn (acP cI X h σ W (ad_take sg s g cm) [] (-1))) := by
    intro s2 h2 σ2 et S2 O2 r2 p2 B2 A2
    have hA2 := B2.1
    have a51 : ∀ (s3 : adT) (h3 : hp_T), ad_take sg s g cm = s3 → tS cI X h3 σ2 → aO X h3 → kR [X + 18] X h σ h3 σ2 → acS X h3 σ2 s3 c → ev_E G m_Addresses_takeGathered 51 [(0, .ref (X + 18)), (1, .int sg)] [] h3 (cn (acP cI X h σ W (ad_take sg s g cm) [] (-1))) := by
      intro s3 h3 e3 S3 O3 r3 B3
      refine ev_aload_n d_Addresses_takeGathered_51 rfl rfl ?_
      refine ev_Vn (ci := 5) [] [] ca_Addresses_takeGathered_63 d_Addresses_takeGathered_52 rfl (B3.1) rfl (Nat.le_of_ble_eq_true rfl) (z_beginGathering S3 O3 A2 B3) (fun h1 z => ?_)
      refine ev_vret d_Addresses_takeGathered_55 rfl ?_
      rw [e3]
      exact ⟨rfl, acP_mk r3 p2 ‹_›⟩
    refine ev_iload_n d_Addresses_takeGathered_40 rfl rfl ?_
    refine ev_bipush (v := 59) d_Addresses_takeGathered_41 (by decide) ?_
    by_cases h59 : sg = 59
    · refine ev_icmp_ne (tgt := 51) d_Addresses_takeGathered_43 (by decide) (fun z => absurd h59 z) (fun _ => ?_)
      refine ev_aload_n d_Addresses_takeGathered_46 rfl rfl ?_
      refine ev_iconst (v := (-1)) d_Addresses_takeGathered_47 (by decide) ?_
      refine ev_put (fp_Addresses_39 rfl rfl) d_Addresses_takeGathered_48 hA2 (Nat.le_of_ble_eq_true rfl) rfl rfl ?_
      show ev_E G m_Addresses_takeGathered 51 _ _ (hp_up h2 (X + 18) (.inr (adO X (nI s2.2.2.1) (-1) c))) _
      exact a51 (s2.1, s2.2.1, s2.2.2.1, -1) _ (by rw [et]; exact if_pos h59) (aS_up S2 O2 _ _ _) (aO_up O2 _ _ _) (kR_tr r2 (kR_up (by simp))) (acS_up (s' := (s2.1, s2.2.1, s2.2.2.1, -1)) B2 rfl rfl)
    · refine ev_icmp_ne (tgt := 51) d_Addresses_takeGathered_43 (by decide) (fun _ => ?_) (fun z => absurd z h59)
      exact a51 s2 h2 (by rw [et]; exact if_neg h59) S2 O2 r2 B2
  have hA := B.1
  refine ct_of (ws' := tb_all) rfl rfl (Nat.le_of_ble_eq_true rfl) ?_
  refine ev_iload_n d_Addresses_takeGathered_0 rfl rfl ?_
  refine ev_bipush (v := 58) d_Addresses_takeGathered_1 (by decide) ?_
  by_cases h58 : sg = 58
  · refine ev_icmp_ne (tgt := 13) d_Addresses_takeGathered_3 (by decide) (fun z => absurd h58 z) (fun _ => ?_)
    refine ev_aload_n d_Addresses_takeGathered_6 rfl rfl ?_
    refine ev_Vn (ci := 5) [] [] ca_Addresses_takeGathered_78 d_Addresses_takeGathered_7 rfl (hA) rfl (Nat.le_of_ble_eq_true rfl) (z_atakeColon hT S O A B hb2 hl) (fun h1 z => ?_)
    obtain ⟨O2, σ2, S2, r2, p2, B2, A2⟩ := z
    refine ev_goto (tgt := 40) d_Addresses_takeGathered_10 (by decide) ?_
    exact a40 (ad_col s g) _ σ2 (by unfold ad_take; rw [if_pos h58]) S2 O2 r2 p2 B2 A2
  · have et : ad_take sg s g cm = ad_end sg (ad_box s g cm) := by unfold ad_take; rw [if_neg h58]
    refine ev_icmp_ne (tgt := 13) d_Addresses_takeGathered_3 (by decide) (fun _ => ?_) (fun z => absurd z h58)
    refine ev_aload_n d_Addresses_takeGathered_13 rfl rfl ?_
    refine ev_get (fa_Addresses_32 rfl rfl) d_Addresses_takeGathered_14 hA rfl ?_
    refine ev_Vv (ci := 1) [] [] ca_Addresses_takeGathered_45 d_Addresses_takeGathered_17 rfl ((S.1.1 _ m31).1.1) rfl (Nat.le_of_ble_eq_true rfl) (w_size S.1 m31) ?_
    rw [ga_len A.2.1]
    by_cases hg : g = []
    · refine ev_if_le (tgt := 40) d_Addresses_takeGathered_20 (by decide) (fun _ => ?_) (fun z => absurd (by rw [hg]; decide) z)
      exact a40 s h σ (by rw [et, hg]; rfl) S O kR_rf (fun _ _ => rfl) B A
    · have hpos : 0 < g.length := by
        rcases Nat.eq_zero_or_pos g.length with z | z
        · exact absurd (List.length_eq_zero_iff.mp z) hg
        · exact z
      have ebx := ad_box_e (s := s) (cm := cm) hg
      refine ev_if_le (tgt := 40) d_Addresses_takeGathered_20 (by decide) (fun z => absurd z (nI_nle hpos (by omega))) (fun _ => ?_)
      refine ev_aload_n d_Addresses_takeGathered_23 rfl rfl ?_
      refine ev_Vr (ci := 5) [] [] ca_Addresses_takeGathered_81 d_Addresses_takeGathered_24 rfl (hA) rfl (Nat.le_of_ble_eq_true rfl) (z_takeMailbox hT S O A B hc hb hm) (fun v h1 z => ?_)
      obtain ⟨rfl, σ2, S2, r2, p2, T19, T26, T24, A2⟩ := z
      have O2 := aO_go S r2 O
      have hA2 := rwR_obj S.1 r2 hA (by omega) (nrow (by decide))
      cases hmb : (ad_mb g cm).isSome with
      | true =>
        rw [hmb] at ebx
        refine ev_if_ne (tgt := 40) d_Addresses_takeGathered_27 (by decide) (fun _ => ?_) (fun z => absurd (show (1 : Int32) = 0 from z) (by decide))
        exact a40 (ad_box s g cm) _ σ2 et S2 O2 (kR_of r2) p2 (by rw [ebx]; exact ⟨hA2, T19, T26, T24⟩) A2
      | false =>
        rw [hmb] at ebx
        refine ev_if_ne (tgt := 40) d_Addresses_takeGathered_27 (by decide) (fun z => absurd rfl z) (fun _ => ?_)
        refine ev_aload_n d_Addresses_takeGathered_30 rfl rfl ?_
        refine ev_dup d_Addresses_takeGathered_31 rfl ?_
        refine ev_get (fa_Addresses_35 rfl rfl) d_Addresses_takeGathered_32 hA2 rfl ?_
        refine ev_iconst (v := 1) d_Addresses_takeGathered_35 (by decide) ?_
        refine ev_iadd d_Addresses_takeGathered_36 ?_
        refine ev_put (fp_Addresses_35 rfl rfl) d_Addresses_takeGathered_37 hA2 (Nat.le_of_ble_eq_true rfl) rfl rfl ?_
        rw [nI_1]
        show ev_E G m_Addresses_takeGathered 40 _ _ (hp_up _ (X + 18) (.inr (adO X (nI (s.2.2.1 + 1)) s.2.2.2 c))) _
        exact a40 (ad_box s g cm) _ σ2 et (aS_up S2 O2 _ _ _) (aO_up O2 _ _ _) (kR_tr (kR_of r2) (kR_up (by simp))) p2 (by rw [ebx]; exact ⟨hp_up_self _ _ _, T19, T26, T24⟩) A2
/-- how much may stand there behind i words -/
def acB (W : Wds) (i : Nat) (s : adT) (g : Wds) (cm : List Int32) : Prop := (f3 s.1).flatten.length + cm.length + eW g ≤ eW (W.take i) ∧ s.2.1.flatten.length + eW g ≤ eW (W.take i) ∧ 2 * s.1.length + g.length ≤ i ∧ s.2.1.length ≤ i
theorem eW_succ {W : Wds} {i : Nat} {w : Int32 × Int32 × List Int32} (h : W[i]? = some w) : eW (W.take (i + 1)) = eW (W.take i) + ewt w := by
  obtain ⟨hi, e⟩ := List.getElem?_eq_some_iff.mp h
  rw [List.take_succ_eq_append_getElem hi, e, eW_app]
  rfl
theorem ewt_ge (w : Int32 × Int32 × List Int32) : w.2.2.length + 1 ≤ ewt w := by unfold ewt; split <;> omega
theorem flat_snoc (L : List (List Int32)) (l : List Int32) : (L ++ [l]).flatten.length = L.flatten.length + l.length := by simp
theorem f3_flat (ms : List adM) (m : adM) : (f3 (ms ++ [m])).flatten.length = (f3 ms).flatten.length + (m.1.1.length + m.1.2.1.length + m.1.2.2.length) := by
  rw [f3_snoc]
  simp
  omega
theorem acB_take {W : Wds} {i : Nat} {s : adT} {g : Wds} {cm : List Int32} {w : Int32 × Int32 × List Int32} (h : W[i]? = some w) (B : acB W i s g cm) (c : Int32) : acB W (i + 1) (ad_take c s g cm) [] [] := by
  obtain ⟨B1, B2, B3, B4⟩ := B
  have he := eW_succ h
  have hw := ewt_ge w
  have key : ∀ s' : adT, (f3 s'.1).flatten.length ≤ eW (W.take (i + 1)) → s'.2.1.flatten.length ≤ eW (W.take (i + 1)) → 2 * s'.1.length ≤ i + 1 → s'.2.1.length ≤ i + 1 → acB W (i + 1) (ad_end c s') [] [] := by
    intro s' k1 k2 k3 k4
    unfold ad_end
    by_cases hc : c = 59
    · rw [if_pos hc]
      exact ⟨by simpa [eW] using k1, by simpa [eW] using k2, by simpa using k3, k4⟩
    · rw [if_neg hc]
      exact ⟨by simpa [eW] using k1, by simpa [eW] using k2, by simpa using k3, k4⟩
  unfold ad_take
  refine key _ ?_ ?_ ?_ ?_
  all_goals by_cases h58 : c = 58
  · rw [if_pos h58]
    unfold ad_col
    split
    · show (f3 s.1).flatten.length ≤ _; omega
    · show (f3 s.1).flatten.length ≤ _; omega
  · rw [if_neg h58]
    by_cases hg : g = []
    · rw [hg]; show (f3 s.1).flatten.length ≤ _; omega
    · rw [ad_box_e hg]
      show (f3 (mbL s g cm)).flatten.length ≤ _
      unfold mbL
      cases hm : ad_mb g cm with
      | none => show (f3 s.1).flatten.length ≤ _; omega
      | some m =>
        have := mb_len (l0 := m.1) (l1 := m.2.1) (l2 := m.2.2) hm
        show (f3 (s.1 ++ [(m, s.2.2.2)])).flatten.length ≤ _
        rw [f3_flat]
        show (f3 s.1).flatten.length + (m.1.length + m.2.1.length + m.2.2.length) ≤ _
        omega
  · rw [if_pos h58]
    unfold ad_col
    split
    · show (s.2.1 ++ [_]).flatten.length ≤ _
      rw [flat_snoc]
      have := nT_len g false
      cases ad_all g
      · simp only [cond_false, List.length_nil]; omega
      · simp only [cond_true]; omega
    · show s.2.1.flatten.length ≤ _; omega
  · rw [if_neg h58, (box_g s g cm).1]
    omega
  · rw [if_pos h58]
    unfold ad_col
    split
    · show 2 * s.1.length ≤ _; omega
    · show 2 * s.1.length ≤ _; omega
  · rw [if_neg h58]
    by_cases hg : g = []
    · rw [hg]; show 2 * s.1.length ≤ _; omega
    · have hpos : 0 < g.length := by
        rcases Nat.eq_zero_or_pos g.length with z | z
        · exact absurd (List.length_eq_zero_iff.mp z) hg
        · exact z
      rw [ad_box_e hg]
      show 2 * (mbL s g cm).length ≤ _
      unfold mbL
      cases ad_mb g cm with
      | none => show 2 * s.1.length ≤ _; omega
      | some m =>
        show 2 * (s.1 ++ [(m, s.2.2.2)]).length ≤ _
        rw [List.length_append, List.length_singleton]
        omega
  · rw [if_pos h58]
    unfold ad_col
    split
    · show (s.2.1 ++ [_]).length ≤ _
      rw [List.length_append, List.length_singleton]
      omega
    · show s.2.1.length ≤ _; omega
  · rw [if_neg h58, (box_g s g cm).1]
    omega
theorem lz_areadWords (hT : (gl_t G)[0]? = some (cI, .int)) {W : Wds} (hWl : W.length ≤ 1501) (hE : eW W ≤ 3100) : ∀ (d i : Nat) (s : adT) (g : Wds) (cm : List Int32) (c : Int32) (an : Bool) (h : hp_T) (σ : rwT), i + d = W.length → tS cI X h σ → aO X h → acW σ W g → acS X h σ s c → cmS W c cm → acB W i s g cm → ev_E G m_Addresses_readWords 40 [(0, .ref (X + 18)), (1, .int (bI an)), (2, .int (nI i))] [] h (cn (acP cI X h σ W (ad_go (W.drop i) s g cm an) [] (-1))) := by
  have m16 : (16 : Nat) ∈ rws := by decide
  have m31 : (31 : Nat) ∈ rws := by decide
  have hEi : ∀ i, i ≤ W.length → eW (W.take i) ≤ 3100 := fun i hi => by
    have := eW_mono (g := W) (a := i) (b := W.length) hi (Nat.le_refl _)
    rw [eW_all] at this
    omega
  intro d
  induction d with
  | zero =>
    intro i s g cm c an h σ hd S O A B hc K
    obtain ⟨K1, K2, K3, K4⟩ := id K
    have hX := S.1.2.2
    have hA := B.1
    obtain ⟨-, r, hWo⟩ := id O
    have hei := hEi i (by omega)
    rw [List.drop_eq_nil_of_le (by omega), ad_go]
    refine ev_iload_n d_Addresses_readWords_40 rfl rfl ?_
    refine ev_aload_n d_Addresses_readWords_41 rfl rfl ?_
    refine ev_get (fa_Addresses_9 rfl rfl) d_Addresses_readWords_42 hA rfl ?_
    refine ev_Vv (ci := 4) [] [.int (nI i)] ca_Addresses_readWords_66 d_Addresses_readWords_45 rfl (hWo) rfl (Nat.le_of_ble_eq_true rfl) (w_wkinds hWo) ?_
    refine ev_Vv (ci := 1) [] [.int (nI i)] ca_Addresses_readWords_45 d_Addresses_readWords_48 rfl ((S.1.1 _ m16).1.1) rfl (Nat.le_of_ble_eq_true rfl) (w_size S.1 m16) ?_
    rw [A.1.2, List.length_map, List.length_map]
    refine ev_icmp_ge (tgt := 159) d_Addresses_readWords_51 (by decide) (fun _ => ?_) (fun z => absurd (nI_le (by omega) (by omega)) z)
    refine ev_aload_n d_Addresses_readWords_159 rfl rfl ?_
    refine ev_bipush (v := 44) d_Addresses_readWords_160 (by decide) ?_
    refine ev_Vn (ci := 5) [.int 44] [] ca_Addresses_readWords_72 d_Addresses_readWords_162 rfl (hA) rfl (Nat.le_of_ble_eq_true rfl) (z_takeGathered hT S O A B hc (by omega) (by omega) (by omega) (by omega) 44) (fun h1 z => ?_)
    refine ev_vret d_Addresses_readWords_165 rfl ?_
    exact ⟨rfl, ‹_›⟩
  | succ d ih =>
    intro i s g cm c an h σ hd S O A B hc K
    obtain ⟨K1, K2, K3, K4⟩ := id K
    have hX := S.1.2.2
    have hgl := ac_le S A
    have hA := B.1
    obtain ⟨-, r, hWo⟩ := id O
    have hei := hEi i (by omega)
    have qi : W[i]? = some W[i] := List.getElem?_eq_getElem (by omega)
    generalize W[i] = w at qi
    have hwf : wfW w := A.2.2.1 w (List.mem_of_getElem? qi)
    have hes := eW_succ qi
    have hewt := ewt_ge w
    rw [go_dr qi, ad_go]
    refine ev_iload_n d_Addresses_readWords_40 rfl rfl ?_
    refine ev_aload_n d_Addresses_readWords_41 rfl rfl ?_
    refine ev_get (fa_Addresses_9 rfl rfl) d_Addresses_readWords_42 hA rfl ?_
    refine ev_Vv (ci := 4) [] [.int (nI i)] ca_Addresses_readWords_66 d_Addresses_readWords_45 rfl (hWo) rfl (Nat.le_of_ble_eq_true rfl) (w_wkinds hWo) ?_
    refine ev_Vv (ci := 1) [] [.int (nI i)] ca_Addresses_readWords_45 d_Addresses_readWords_48 rfl ((S.1.1 _ m16).1.1) rfl (Nat.le_of_ble_eq_true rfl) (w_size S.1 m16) ?_
    rw [show nI (σ 16).2.2.length = nI W.length by rw [A.1.2, List.length_map, List.length_map]]
    refine ev_icmp_ge (tgt := 159) d_Addresses_readWords_51 (by decide) (fun z => absurd z (nI_ge (by omega) (by omega))) (fun _ => ?_)
    refine ev_aload_n d_Addresses_readWords_54 rfl rfl ?_
    refine ev_get (fa_Addresses_9 rfl rfl) d_Addresses_readWords_55 hA rfl ?_
    refine ev_Vv (ci := 4) [] [] ca_Addresses_readWords_66 d_Addresses_readWords_58 rfl (hWo) rfl (Nat.le_of_ble_eq_true rfl) (w_wkinds hWo) ?_
    refine ev_iload_n d_Addresses_readWords_61 rfl rfl ?_
    refine ev_Vv (ci := 1) [.int (nI i)] [] ca_Addresses_readWords_49 d_Addresses_readWords_62 rfl ((S.1.1 _ m16).1.1) rfl (Nat.le_of_ble_eq_true rfl) (w_get hT S.1 m16 (nI i)) ?_
    rw [show rg (σ 16).2.2 (nI i) = cK w by rw [kd_at A.1 (by omega) i (by omega), qi]]
    have a153 : ∀ (s2 : adT) (g2 : Wds) (cm2 : List Int32) (c2 : Int32) (an2 : Bool) (h2 : hp_T) (σ2 : rwT), tS cI X h2 σ2 → aO X h2 → acW σ2 W g2 → acS X h2 σ2 s2 c2 → cmS W c2 cm2 → acB W (i + 1) s2 g2 cm2 → kR [X + 18] X h σ h2 σ2 → (∀ τ, τ ∉ adR → (σ2 τ).2.2 = (σ τ).2.2) → ev_E G m_Addresses_readWords 153 [(0, .ref (X + 18)), (1, .int (bI an2)), (2, .int (nI i)), (3, .int (cK w))] [] h2 (cn (acP cI X h σ W (ad_go (W.drop (i + 1)) s2 g2 cm2 an2) [] (-1))) := by
      intro s2 g2 cm2 c2 an2 h2 σ2 S2 O2 A2 B2 hc2 K2' r2 p2
      refine ev_iinc d_Addresses_readWords_153 rfl (by decide) ?_
      refine ev_goto (tgt := 40) d_Addresses_readWords_156 (by decide) ?_
      refine ev_as [(0, .ref (X + 18)), (1, .int (bI an2)), (2, .int (nI (i + 1)))] ⟨rfl, rfl, ?_, trivial⟩ (ev_to (ih (i + 1) s2 g2 cm2 c2 an2 h2 σ2 (by omega) S2 O2 A2 B2 hc2 K2') ?_)
      · show some (Value.int (nI i + Int32.ofInt 1)) = _
        rw [show nI i + Int32.ofInt 1 = nI (i + 1) from nI_1 i]
      · rintro o h' ⟨rfl, p⟩
        exact ⟨rfl, acP_mk r2 p2 p⟩
    refine ev_istore_n d_Addresses_readWords_65 rfl (by decide) ?_
    refine ev_iload_n d_Addresses_readWords_66 rfl rfl ?_
    refine ev_iconst (v := 4) d_Addresses_readWords_67 (by decide) ?_
    by_cases h0 : w.1 = 0
    · rw [if_pos h0]
      refine ev_icmp_ne (tgt := 93) d_Addresses_readWords_68 (by decide) (fun z => absurd ((cK_4 hwf).mpr h0) z) (fun _ => ?_)
      have a87 : ∀ (x : Int32) (cm2 : List Int32), cmS W x cm2 → cm2.length ≤ w.2.2.length → ev_E G m_Addresses_readWords 87 [(0, .ref (X + 18)), (1, .int (bI an)), (2, .int (nI i)), (3, .int (cK w))] [.int x, .ref (X + 18)] h (cn (acP cI X h σ W (ad_go (W.drop (i + 1)) s g cm2 an) [] (-1))) := by
        intro x cm2 hx hcl
        refine ev_put (fp_Addresses_42 rfl rfl) d_Addresses_readWords_87 hA (Nat.le_of_ble_eq_true rfl) rfl rfl ?_
        refine ev_goto (tgt := 153) d_Addresses_readWords_90 (by decide) ?_
        show ev_E G m_Addresses_readWords 153 _ _ (hp_up h (X + 18) (.inr (adO X (nI s.2.2.1) s.2.2.2 x))) _
        exact a153 s g cm2 x an _ σ (aS_up S O _ _ _) (aO_up O _ _ _) A (acS_up B rfl rfl) hx ⟨by omega, by omega, by omega, by omega⟩ (kR_up (by simp)) (fun _ _ => rfl)
      refine ev_aload_n d_Addresses_readWords_71 rfl rfl ?_
      refine ev_aload_n d_Addresses_readWords_72 rfl rfl ?_
      refine ev_get (fa_Addresses_32 rfl rfl) d_Addresses_readWords_73 hA rfl ?_
      refine ev_Vv (ci := 1) [] [.ref (X + 18)] ca_Addresses_readWords_45 d_Addresses_readWords_76 rfl ((S.1.1 _ m31).1.1) rfl (Nat.le_of_ble_eq_true rfl) (w_size S.1 m31) ?_
      rw [ga_len A.2.1]
      cases hg : g with
      | nil =>
        rw [hg] at a87
        refine ev_if_le (tgt := 86) d_Addresses_readWords_79 (by decide) (fun _ => ?_) (fun z => absurd (by decide) z)
        refine ev_iconst (v := (-1)) d_Addresses_readWords_86 (by decide) ?_
        exact a87 (-1) [] (Or.inl ⟨rfl, rfl⟩) (Nat.zero_le _)
      | cons x t =>
        rw [hg] at a87 hgl
        refine ev_if_le (tgt := 86) d_Addresses_readWords_79 (by decide) (fun z => absurd z (nI_nle (by simp) (by omega))) (fun _ => ?_)
        refine ev_iload_n d_Addresses_readWords_82 rfl rfl ?_
        refine ev_goto (tgt := 87) d_Addresses_readWords_83 (by decide) ?_
        exact a87 (nI i) w.2.2 (Or.inr ⟨i, w, rfl, qi, rfl⟩) (Nat.le_refl _)
    · rw [if_neg h0]
      refine ev_icmp_ne (tgt := 93) d_Addresses_readWords_68 (by decide) (fun _ => ?_) (fun z => absurd ((cK_4 hwf).mp z) h0)
      have a115 : ∀ c0 : Int32, wIs w c0 = true → an = false → ad_sep w = true → ev_E G m_Addresses_readWords 115 [(0, .ref (X + 18)), (1, .int (bI an)), (2, .int (nI i)), (3, .int (cK w))] [] h (cn (acP cI X h σ W (bif !an && ad_sep w then ad_go (W.drop (i + 1)) (ad_take w.2.1 s g cm) [] [] false else ad_go (W.drop (i + 1)) s (g ++ [w]) cm (ad_an1 an w)) [] (-1))) := by
        intro c0 hw0 han hsep
        have ek : cK w = w.2.1 := by unfold cK; rw [if_pos (of_decide_eq_true hw0).1]
        rw [han, hsep]
        show ev_E _ _ _ _ _ _ (cn (acP cI X h σ W (ad_go (W.drop (i + 1)) (ad_take w.2.1 s g cm) [] [] false) [] (-1)))
        rw [← ek]
        refine ev_aload_n d_Addresses_readWords_115 rfl rfl ?_
        refine ev_iload_n d_Addresses_readWords_116 rfl rfl ?_
        refine ev_Vn (ci := 5) [.int (cK w)] [] ca_Addresses_readWords_72 d_Addresses_readWords_117 rfl (hA) rfl (Nat.le_of_ble_eq_true rfl) (z_takeGathered hT S O A B hc (by omega) (by omega) (by omega) (by omega) (cK w)) (fun h1 z => ?_)
        obtain ⟨O2, σ2, S2, r2, p2, B2, A2⟩ := z
        refine ev_goto (tgt := 153) d_Addresses_readWords_120 (by decide) ?_
        exact a153 (ad_take (cK w) s g cm) [] [] (-1) false _ σ2 S2 O2 A2 B2 (Or.inl ⟨rfl, rfl⟩) (acB_take qi K (cK w)) r2 p2
      have a123 : (!an && ad_sep w) = false → ev_E G m_Addresses_readWords 123 [(0, .ref (X + 18)), (1, .int (bI an)), (2, .int (nI i)), (3, .int (cK w))] [] h (cn (acP cI X h σ W (bif !an && ad_sep w then ad_go (W.drop (i + 1)) (ad_take w.2.1 s g cm) [] [] false else ad_go (W.drop (i + 1)) s (g ++ [w]) cm (ad_an1 an w)) [] (-1))) := by
        intro hns
        rw [hns, cond_false]
        refine ev_aload_n d_Addresses_readWords_123 rfl rfl ?_
        refine ev_get (fa_Addresses_32 rfl rfl) d_Addresses_readWords_124 hA rfl ?_
        refine ev_iload_n d_Addresses_readWords_127 rfl rfl ?_
        refine ev_Vn (ci := 1) [.int (nI i)] [] ca_Addresses_readWords_75 d_Addresses_readWords_128 rfl ((S.1.1 _ m31).1.1) rfl (Nat.le_of_ble_eq_true rfl) (w_radd hT S m31 (nI i)) (fun h1 z => ?_)
        obtain ⟨σ2, S2, r2, p2, q2⟩ := z
        have O2 := aO_go S r2 O
        have hA2 := rwR_obj S.1 r2 hA (by omega) (nrow (by decide))
        have B2 : acS X h1 σ2 s c := ⟨hA2, txH_same B.2.1 (p2 20 (by decide)) (p2 22 (by decide)), txH_same B.2.2.1 (p2 27 (by decide)) (p2 29 (by decide)), (p2 24 (by decide)).trans B.2.2.2⟩
        have A2 : acW σ2 W (g ++ [w]) := by
          obtain ⟨A1, ⟨ix, e1, e2⟩, A3⟩ := A
          refine ⟨⟨txH_same A1.1 (p2 12 (by decide)) (p2 14 (by decide)), (p2 16 (by decide)).trans A1.2⟩, ⟨ix ++ [i], ?_, ?_⟩, A3⟩
          · have hll := congrArg List.length e2
            rw [List.length_map, List.length_map] at hll
            rw [q2, e1, addR, if_pos (by rw [List.length_map]; omega), List.map_append]
            rfl
          · rw [List.map_append, List.map_append, e2, List.map_singleton, qi]
            rfl
        have K2' : acB W (i + 1) s (g ++ [w]) cm := by
          have e3 : eW (g ++ [w]) = eW g + ewt w := by rw [eW_app]; rfl
          refine ⟨by omega, by omega, ?_, by omega⟩
          rw [List.length_append, List.length_singleton]
          omega
        have on := fun an2 => a153 s (g ++ [w]) cm c an2 _ σ2 S2 O2 A2 B2 hc K2' (kR_of r2) (sub1 p2 (by decide))
        have yes : ad_an1 an w = true → ev_E G m_Addresses_readWords 147 [(0, .ref (X + 18)), (1, .int (bI an)), (2, .int (nI i)), (3, .int (cK w))] [] h1 (cn (acP cI X h σ W (ad_go (W.drop (i + 1)) s (g ++ [w]) cm (ad_an1 an w)) [] (-1))) := by
          intro e
          rw [e]
          refine ev_iconst (v := 1) d_Addresses_readWords_147 (by decide) ?_
          refine ev_goto (tgt := 152) d_Addresses_readWords_148 (by decide) ?_
          refine ev_istore_n d_Addresses_readWords_152 rfl (by decide) ?_
          exact ev_as [(0, .ref (X + 18)), (1, .int (bI true)), (2, .int (nI i)), (3, .int (cK w))] ⟨rfl, rfl, rfl, rfl, trivial⟩ (on true)
        have no : ad_an1 an w = false → ev_E G m_Addresses_readWords 151 [(0, .ref (X + 18)), (1, .int (bI an)), (2, .int (nI i)), (3, .int (cK w))] [] h1 (cn (acP cI X h σ W (ad_go (W.drop (i + 1)) s (g ++ [w]) cm (ad_an1 an w)) [] (-1))) := by
          intro e
          rw [e]
          refine ev_iconst (v := 0) d_Addresses_readWords_151 (by decide) ?_
          refine ev_istore_n d_Addresses_readWords_152 rfl (by decide) ?_
          exact ev_as [(0, .ref (X + 18)), (1, .int (bI false)), (2, .int (nI i)), (3, .int (cK w))] ⟨rfl, rfl, rfl, rfl, trivial⟩ (on false)
        refine ev_iload_n d_Addresses_readWords_131 rfl rfl ?_
        refine ev_bipush (v := 60) d_Addresses_readWords_132 (by decide) ?_
        cases h60 : wIs w 60 with
        | true =>
          refine ev_icmp_eq (tgt := 147) d_Addresses_readWords_134 (by decide) (fun _ => ?_) (fun z => absurd ((cK_s hwf (by decide)).mpr h60) z)
          exact yes (by unfold ad_an1; rw [h60]; rfl)
        | false =>
          refine ev_icmp_eq (tgt := 147) d_Addresses_readWords_134 (by decide) (fun z => absurd z (nK_s hwf (by decide) h60)) (fun _ => ?_)
          refine ev_iload_n d_Addresses_readWords_137 rfl rfl ?_
          cases an with
          | false =>
            refine ev_if_eq (tgt := 151) d_Addresses_readWords_138 (by decide) (fun _ => ?_) (fun z => absurd rfl z)
            exact no (by unfold ad_an1; rw [h60]; rfl)
          | true =>
            refine ev_if_eq (tgt := 151) d_Addresses_readWords_138 (by decide) (fun z => absurd (show (1 : Int32) = 0 from z) (by decide)) (fun _ => ?_)
            refine ev_iload_n d_Addresses_readWords_141 rfl rfl ?_
            refine ev_bipush (v := 62) d_Addresses_readWords_142 (by decide) ?_
            cases h62 : wIs w 62 with
            | true =>
              refine ev_icmp_eq (tgt := 151) d_Addresses_readWords_144 (by decide) (fun _ => ?_) (fun z => absurd ((cK_s hwf (by decide)).mpr h62) z)
              exact no (by unfold ad_an1; rw [h60, h62]; rfl)
            | false =>
              refine ev_icmp_eq (tgt := 151) d_Addresses_readWords_144 (by decide) (fun z => absurd z (nK_s hwf (by decide) h62)) (fun _ => ?_)
              exact yes (by unfold ad_an1; rw [h60, h62]; rfl)
      refine ev_iload_n d_Addresses_readWords_93 rfl rfl ?_
      cases an with
      | true =>
        refine ev_if_ne (tgt := 123) d_Addresses_readWords_94 (by decide) (fun _ => ?_) (fun z => absurd (show (1 : Int32) = 0 from z) (by decide))
        exact a123 rfl
      | false =>
        refine ev_if_ne (tgt := 123) d_Addresses_readWords_94 (by decide) (fun z => absurd rfl z) (fun _ => ?_)
        refine ev_iload_n d_Addresses_readWords_97 rfl rfl ?_
        refine ev_bipush (v := 44) d_Addresses_readWords_98 (by decide) ?_
        cases h44 : wIs w 44 with
        | true =>
          refine ev_icmp_eq (tgt := 115) d_Addresses_readWords_100 (by decide) (fun _ => ?_) (fun z => absurd ((cK_s hwf (by decide)).mpr h44) z)
          exact a115 44 h44 rfl (by unfold ad_sep; rw [h44]; rfl)
        | false =>
          refine ev_icmp_eq (tgt := 115) d_Addresses_readWords_100 (by decide) (fun z => absurd z (nK_s hwf (by decide) h44)) (fun _ => ?_)
          refine ev_iload_n d_Addresses_readWords_103 rfl rfl ?_
          refine ev_bipush (v := 59) d_Addresses_readWords_104 (by decide) ?_
          cases h59 : wIs w 59 with
          | true =>
            refine ev_icmp_eq (tgt := 115) d_Addresses_readWords_106 (by decide) (fun _ => ?_) (fun z => absurd ((cK_s hwf (by decide)).mpr h59) z)
            exact a115 59 h59 rfl (by unfold ad_sep; rw [h44, h59]; rfl)
          | false =>
            refine ev_icmp_eq (tgt := 115) d_Addresses_readWords_106 (by decide) (fun z => absurd z (nK_s hwf (by decide) h59)) (fun _ => ?_)
            refine ev_iload_n d_Addresses_readWords_109 rfl rfl ?_
            refine ev_bipush (v := 58) d_Addresses_readWords_110 (by decide) ?_
            cases h58 : wIs w 58 with
            | true =>
              refine ev_icmp_ne (tgt := 123) d_Addresses_readWords_112 (by decide) (fun z => absurd ((cK_s hwf (by decide)).mpr h58) z) (fun _ => ?_)
              exact a115 58 h58 rfl (by unfold ad_sep; rw [h44, h59, h58]; rfl)
            | false =>
              refine ev_icmp_ne (tgt := 123) d_Addresses_readWords_112 (by decide) (fun _ => ?_) (fun z => absurd z (nK_s hwf (by decide) h58))
              exact a123 (by unfold ad_sep; rw [h44, h59, h58]; rfl)
/-- the whole: what was read, by the words -/
theorem z_areadWords (hT : (gl_t G)[0]? = some (cI, .int)) {h : hp_T} {σ : rwT} (S : tS cI X h σ) (O : aO X h) {W : Wds} (hW : wdH σ (W.map wm) []) (hwf : ∀ w ∈ W, wfW w) (hWl : W.length ≤ 1501) (hWb : wdB (W.map wm) ≤ 1501) (hE : eW W ≤ 3100) : ct_E G m_Addresses_readWords [.ref (X + 18)] h (cn (fun h' => aO X h' ∧ ∃ σ', tS cI X h' σ' ∧ kR [X + 18] X h σ h' σ' ∧ (∀ τ, τ ∉ adR → (σ' τ).2.2 = (σ τ).2.2) ∧ acS X h' σ' (ad_S W) (-1))) := by
  have m19 : (19 : Nat) ∈ txs := by decide
  have m26 : (26 : Nat) ∈ txs := by decide
  have m24 : (24 : Nat) ∈ rws := by decide
  obtain ⟨⟨a, b, c, hA⟩, r, hWo⟩ := id O
  refine ct_of (ws' := tb_all) rfl rfl (Nat.le_of_ble_eq_true rfl) ?_
  refine ev_aload_n d_Addresses_readWords_0 rfl rfl ?_
  refine ev_get (fa_Addresses_18 rfl rfl) d_Addresses_readWords_1 hA rfl ?_
  refine ev_Vn (ci := 3) [] [] ca_Addresses_readWords_56 d_Addresses_readWords_4 rfl ((S.2 19 m19)) rfl (Nat.le_of_ble_eq_true rfl) (y_clear S m19) (fun h1 z => ?_)
  obtain ⟨σ1, S1, r1, p1, H1⟩ := z
  have O1 := aO_go S r1 O
  obtain ⟨⟨a, b, c, hA1⟩, r, hW1⟩ := id O1
  refine ev_aload_n d_Addresses_readWords_7 rfl rfl ?_
  refine ev_get (fa_Addresses_25 rfl rfl) d_Addresses_readWords_8 hA1 rfl ?_
  refine ev_iconst (v := 0) d_Addresses_readWords_11 (by decide) ?_
  refine ev_Vn (ci := 1) [.int 0] [] ca_Addresses_readWords_59 d_Addresses_readWords_12 rfl ((S1.1.1 _ m24).1.1) rfl (Nat.le_of_ble_eq_true rfl) (w_rcut S1 m24 0) (fun h1 z => ?_)
  obtain ⟨σ2, S2, r2, p2, q2⟩ := z
  have O2 := aO_go S1 r2 O1
  obtain ⟨⟨a, b, c, hA2⟩, r, hW2⟩ := id O2
  refine ev_aload_n d_Addresses_readWords_15 rfl rfl ?_
  refine ev_get (fa_Addresses_29 rfl rfl) d_Addresses_readWords_16 hA2 rfl ?_
  refine ev_Vn (ci := 3) [] [] ca_Addresses_readWords_56 d_Addresses_readWords_19 rfl ((S2.2 26 m26)) rfl (Nat.le_of_ble_eq_true rfl) (y_clear S2 m26) (fun h1 z => ?_)
  obtain ⟨σ3, S3, r3, p3, H3⟩ := z
  have O3 := aO_go S2 r3 O2
  obtain ⟨⟨a, b, c, hA3⟩, r, hW3⟩ := id O3
  have q3 : ∀ τ, τ ∉ [20, 22, 24, 27, 29] → (σ3 τ).2.2 = (σ τ).2.2 := fun τ hτ => (subL p3 (by decide) τ hτ).trans ((sub1 p2 (by decide) τ hτ).trans (subL p1 (by decide) τ hτ))
  refine ev_aload_n d_Addresses_readWords_22 rfl rfl ?_
  refine ev_iconst (v := 0) d_Addresses_readWords_23 (by decide) ?_
  refine ev_put (fp_Addresses_35 rfl rfl) d_Addresses_readWords_24 hA3 (Nat.le_of_ble_eq_true rfl) rfl rfl ?_
  refine ev_aload_n d_Addresses_readWords_27 rfl rfl ?_
  refine ev_iconst (v := (-1)) d_Addresses_readWords_28 (by decide) ?_
  refine ev_put (fp_Addresses_39 rfl rfl) d_Addresses_readWords_29 (hp_up_self _ _ _) (Nat.le_of_ble_eq_true rfl) rfl rfl ?_
  rw [hp_up_up]
  show ev_E G m_Addresses_readWords 32 _ _ (hp_up h1 (X + 18) (.inr (adO X 0 (-1) c))) _
  have S4 := aS_up S3 O3 0 (-1) c
  have O4 := aO_up O3 0 (-1) c
  have k4 : kR [X + 18] X h σ (hp_up h1 (X + 18) (.inr (adO X 0 (-1) c))) σ3 := kR_tr (kR_of (rwR_tr r1 (rwR_tr r2 r3))) (kR_up (by simp))
  have hA4 : (hp_up h1 (X + 18) (.inr (adO X 0 (-1) c))).2.2 (X + 18) = some (.inr (adO X 0 (-1) c)) := hp_up_self _ _ _
  generalize hp_up h1 (X + 18) (.inr (adO X 0 (-1) c)) = h4 at S4 O4 k4 hA4 ⊢
  have B4 : acS X h4 σ3 ([], [], 0, -1) c := by
    refine ⟨hA4, txH_same H1 ((p3 20 (by decide)).trans (p2 20 (by decide))) ((p3 22 (by decide)).trans (p2 22 (by decide))), H3, ?_⟩
    rw [p3 24 (by decide), q2]
    rfl
  -- any row may stand in the gathered one: it is cut first
  refine ev_aload_n d_Addresses_readWords_32 rfl rfl ?_
  have m31 : (31 : Nat) ∈ rws := by decide
  have bg : ct_E G m_Addresses_beginGathering [.ref (X + 18)] h4 (cn (acP cI X h4 σ3 W ([], [], 0, -1) [] (-1))) := by
    have hX := S4.1.2.2
    refine ct_of (ws' := tb_all) rfl rfl (Nat.le_of_ble_eq_true rfl) ?_
    refine ev_aload_n d_Addresses_beginGathering_0 rfl rfl ?_
    refine ev_get (fa_Addresses_32 rfl rfl) d_Addresses_beginGathering_1 hA4 rfl ?_
    refine ev_iconst (v := 0) d_Addresses_beginGathering_4 (by decide) ?_
    refine ev_Vn (ci := 1) [.int 0] [] ca_Addresses_beginGathering_59 d_Addresses_beginGathering_5 rfl ((S4.1.1 _ m31).1.1) rfl (Nat.le_of_ble_eq_true rfl) (w_rcut S4 m31 0) (fun h1 z => ?_)
    obtain ⟨σ5, S5, r5, p5, q5⟩ := z
    have O5 := aO_go S4 r5 O4
    have hA5 := rwR_obj S4.1 r5 hA4 (by omega) (nrow (by decide))
    have B5 : acS X h1 σ5 ([], [], 0, -1) c := ⟨hA5, txH_same B4.2.1 (p5 20 (by decide)) (p5 22 (by decide)), txH_same B4.2.2.1 (p5 27 (by decide)) (p5 29 (by decide)), (p5 24 (by decide)).trans B4.2.2.2⟩
    refine ev_aload_n d_Addresses_beginGathering_8 rfl rfl ?_
    refine ev_iconst (v := (-1)) d_Addresses_beginGathering_9 (by decide) ?_
    refine ev_put (fp_Addresses_42 rfl rfl) d_Addresses_beginGathering_10 hA5 (Nat.le_of_ble_eq_true rfl) rfl rfl ?_
    refine ev_vret d_Addresses_beginGathering_13 rfl ?_
    refine ⟨rfl, aO_up O5 _ _ (-1), σ5, aS_up S5 O5 _ _ (-1), kR_tr (kR_of r5) (kR_up (by simp)), sub1 p5 (by decide), acS_up B5 rfl rfl, ?_⟩
    refine ⟨⟨txH_same hW.1 ((p5 12 (by decide)).trans (q3 12 (by decide))) ((p5 14 (by decide)).trans (q3 14 (by decide))), ((p5 16 (by decide)).trans (q3 16 (by decide))).trans hW.2⟩, ⟨[], ?_, rfl⟩, hwf, hWl, hWb⟩
    rw [q5]
    rfl
  refine ev_Vn (ci := 5) [] [] ca_Addresses_readWords_63 d_Addresses_readWords_33 rfl (hA4) rfl (Nat.le_of_ble_eq_true rfl) (bg) (fun h1 z => ?_)
  obtain ⟨O5, σ5, S5, r5, p5, B5, A5⟩ := z
  refine ev_iconst (v := 0) d_Addresses_readWords_36 (by decide) ?_
  refine ev_istore_n d_Addresses_readWords_37 rfl (by decide) ?_
  refine ev_iconst (v := 0) d_Addresses_readWords_38 (by decide) ?_
  refine ev_istore_n d_Addresses_readWords_39 rfl (by decide) ?_
  refine ev_as [(0, .ref (X + 18)), (1, .int (bI false)), (2, .int (nI 0))] ⟨rfl, rfl, rfl, trivial⟩ (ev_to (lz_areadWords hT hWl hE W.length 0 ([], [], 0, -1) [] [] (-1) false _ σ5 (by omega) S5 O5 A5 B5 (Or.inl ⟨rfl, rfl⟩) ⟨Nat.zero_le _, Nat.zero_le _, Nat.zero_le _, Nat.zero_le _⟩) ?_)
  rintro o h' ⟨rfl, p⟩
  obtain ⟨O6, σ6, S6, r6, p6, B6, -⟩ := acP_mk (kR_tr k4 r5) (fun τ hτ => (p5 τ hτ).trans (subL q3 (by decide) τ hτ)) p
  exact ⟨rfl, O6, σ6, S6, r6, p6, B6⟩
end ACL4
