/-! the class: the calls that read a value, weak -/
abbrev mQ (X : Nat) : List Nat := [X + 4, X + 1, X + 10, X + 39]
abbrev mA (X : Nat) : List Nat := [X + 4, X + 1, X + 10, X + 18, X + 39]
def clQ (cI : ClassId) (X : Nat) (h : hp_T) (σ : rwT) (ρs : List Nat) (B T : List Int32) (F : Flds) (bd : Nat) : hp_T → Prop := fun h' => ∃ σ', (clS cI X h' σ' B T F bd ∧ obS X h') ∧ kR (mQ X) X h σ h' σ' ∧ ∀ τ, τ ∉ ρs → (σ' τ).2.2 = (σ τ).2.2
/-- the same, behind addresses -/
def clA (cI : ClassId) (X : Nat) (h : hp_T) (σ : rwT) (ρs : List Nat) (B T : List Int32) (F : Flds) (bd : Nat) : hp_T → Prop := fun h' => ∃ σ', (clS cI X h' σ' B T F bd ∧ obS X h') ∧ kR (mA X) X h σ h' σ' ∧ ∀ τ, τ ∉ ρs → (σ' τ).2.2 = (σ τ).2.2
abbrev rA : List Nat := [12, 14, 16] ++ adR
abbrev rC : List Nat := [12, 14, 16] ++ ctR
/-- the texts of signs -/
def gSg (G : gl_G) (sa sb : Nat) : Prop := ((∀ U : State, gl_L G U → vk_R "MailHeads" 120 "<>:;@,.)]\\" sa U) ∧ gSn G sa) ∧ (∀ U : State, gl_L G U → vk_R "MailHeads" 140 "<>:;@,)]\\=/" sb U) ∧ gSn G sb
theorem fdt_le {F : Flds} {f w : Int32} {l : List Int32} (h : fdt F f w = some l) : l.length ≤ (fK F).length := by
  unfold fdt at h
  by_cases h0 : f < 0
  · rw [if_pos h0] at h; cases h
  · rw [if_neg h0] at h
    cases hq : F[f.toNatClampNeg]? with
    | none => rw [hq] at h; simp at h
    | some q =>
      rw [hq] at h
      have key : ∀ (a : Nat) (l : List Int32), (∀ i, i < l.length → (fK F)[a + i]? = l[i]?) → l.length ≤ (fK F).length := by
        intro a l hl
        by_cases h0 : l.length = 0
        · omega
        · have h1 := hl (l.length - 1) (by omega)
          rw [List.getElem?_eq_getElem (show l.length - 1 < l.length by omega)] at h1
          have := (List.getElem?_eq_some_iff.mp h1).1
          omega
      obtain ⟨k1, k2⟩ := fK_at hq
      simp only at h
      split at h
      · cases h; exact key _ _ k1
      · split at h
        · cases h; exact key _ _ k2
        · cases h
section MAIL4
variable {G : gl_G} {cI : ClassId} {X : Nat} {B T : List Int32} {F : Flds} {bd : Nat}
theorem clS_go {O : List Nat} {h h' : hp_T} {σ σ' : rwT} (C : clS cI X h σ B T F bd) (S' : tS cI X h' σ') (k : kR O X h σ h' σ') (h0 : X ∉ O) (h1 : X + 1 ∉ O) (h4 : X + 4 ∉ O) (hs : ∀ τ ∈ [2, 6, 8], (σ' τ).2.2 = (σ τ).2.2) : clS cI X h' σ' B T F bd := by
  obtain ⟨S, H, C3, C4, ⟨f5, C5, C6⟩, C7, C8, C9⟩ := C
  have hX := S.1.2.2
  obtain ⟨K5, K7⟩ := kR_arr k C7 h1 hX
  exact ⟨S', ⟨kR_obj S k H.1 (by omega) h4 (nrow (by decide)), by rw [hs 6 (by decide)]; exact H.2.1, by rw [hs 8 (by decide)]; exact H.2.2.1, H.2.2.2⟩, C3, kR_obj S k C4 (by omega) h0 (nrow (q := 0) (by decide)), ⟨f5, by rw [K5]; exact C5, C6⟩, K7, by rw [hs 2 (by decide)]; exact C8, C9⟩
theorem obS_aO {h : hp_T} (O : obS X h) : aO X h := by
  obtain ⟨⟨a, b, c, h1⟩, h2, -⟩ := O
  exact ⟨h2, [a, b, c], h1⟩
theorem obS_cO {h : hp_T} (O : obS X h) : cO X h := by
  obtain ⟨⟨a, b, c, h1⟩, -, -, -, h5⟩ := O
  exact ⟨h5, [a, b, c], h1⟩
theorem obS_dO {h : hp_T} (O : obS X h) : dO X h := by
  obtain ⟨⟨a, b, c, h1⟩, -, -, h4, -⟩ := O
  exact ⟨h4, [a, b, c], h1⟩
/-- objects that no one changed stand; those that may have changed by their own facts -/
theorem obS_go {L : List Nat} {h h' : hp_T} {σ σ' : rwT} (S : tS cI X h σ) (k : kR L X h σ h' σ') (O : obS X h) (h33 : X + 33 ∉ L) (h40 : X + 40 ∉ L) (h10 : X + 10 ∉ L ∨ ∃ a b c : Value, h'.2.2 (X + 10) = some (.inr (4, [.ref (X + 11), .ref (X + 16), a, b, c]))) (h18 : X + 18 ∉ L ∨ ∃ a b c : Int32, h'.2.2 (X + 18) = some (.inr (adO X a b c))) (h39 : X + 39 ∉ L ∨ ∃ p : Int32, h'.2.2 (X + 39) = some (.inr (dtO X p))) : obS X h' := by
  obtain ⟨⟨a, b, c, O1⟩, ⟨a2, b2, c2, O2⟩, O3, ⟨a4, O4⟩, O5⟩ := O
  have hX := S.1.2.2
  refine ⟨?_, ?_, kR_obj S k O3 (by omega) h33 (nrow (by decide)), ?_, kR_obj S k O5 (by omega) h40 (nrow (by decide))⟩
  · rcases h10 with q | q
    · exact ⟨a, b, c, kR_obj S k O1 (by omega) q (nrow (by decide))⟩
    · exact q
  · rcases h18 with q | q
    · exact ⟨a2, b2, c2, kR_obj S k O2 (by omega) q (nrow (by decide))⟩
    · exact q
  · rcases h39 with q | q
    · exact ⟨a4, kR_obj S k O4 (by omega) q (nrow (by decide))⟩
    · exact q
theorem hd_cnt {h : hp_T} {σ : rwT} (C : clS cI X h σ B T F bd) : (nI (σ (5 + 3)).2.2.length - 1) / 2 = nI F.length := by
  obtain ⟨S, H, -⟩ := C
  have h5 := H.2.2.2.2
  rw [show (σ (5 + 3)).2.2 = bnF F from H.2.2.1, bnF_len, nI_pred, show nI (2 * F.length) / 2 = nI (2 * F.length / 2) from pk_div (d := 2) (by omega) (by decide) (by decide), Nat.mul_div_cancel_left _ (by decide)]
/-- the size of a field's value -/
theorem hd_sz {h : hp_T} {σ : rwT} (C : clS cI X h σ B T F bd) (f : Int32) : szO (σ 8).2.2 (hdT (nI F.length) f 1) < 0 ∨ ∃ n : Nat, n < 2 ^ 30 ∧ szO (σ 8).2.2 (hdT (nI F.length) f 1) = nI n := by
  obtain ⟨S, H, C3, -⟩ := C
  rw [show (σ 8).2.2 = bnF F from H.2.2.1, field_F F f 1 H.2.2.2.2]
  cases hq : fdt F f 1 with
  | none => exact Or.inl (by show (-1 : Int32) < 0; decide)
  | some l =>
    have := fdt_le hq
    exact Or.inr ⟨l.length, by omega, rfl⟩
theorem w_valueOf {h : hp_T} {σ : rwT} (C : clS cI X h σ B T F bd) (f : Int32) (hf : hdT (nI F.length) f 1 ≠ -1) : ct_E G m_Mail_valueOf [.ref X, .int f] h (cv (.int (hdT (nI F.length) f 1)) h) := by
  have hc := hd_cnt C
  obtain ⟨S, H, C3, C4, -⟩ := C
  have m5 : (5 : Nat) ∈ txs := by decide
  refine ct_of (ws' := tb_all) rfl rfl (Nat.le_of_ble_eq_true rfl) ?_
  refine ev_aload_n d_Mail_valueOf_0 rfl rfl ?_
  refine ev_get (fa_Mail_23 rfl rfl) d_Mail_valueOf_1 C4 rfl ?_
  refine ev_iload_n d_Mail_valueOf_4 rfl rfl ?_
  refine ev_iconst (v := 1) d_Mail_valueOf_5 (by decide) ?_
  refine ev_Vv (ci := 2) [.int f, .int 1] [] ca_Mail_valueOf_106 d_Mail_valueOf_6 rfl (H.1) rfl (Nat.le_of_ble_eq_true rfl) (ct_of_cp (p_Head_textOf H.1 (tS_tx S m5) f 1)) ?_
  rw [hc]
  refine ev_istore_n d_Mail_valueOf_9 rfl (by decide) ?_
  refine ev_iload_n d_Mail_valueOf_10 rfl rfl ?_
  refine ev_iconst (v := (-1)) d_Mail_valueOf_11 (by decide) ?_
  refine ev_icmp_ne (tgt := 25) d_Mail_valueOf_12 (by decide) (fun _ => ?_) (fun z => absurd z hf)
  refine ev_iload_n d_Mail_valueOf_25 rfl rfl ?_
  refine ev_iret d_Mail_valueOf_26 rfl ?_
  exact ⟨rfl, rfl⟩
/-- behind cut -/
theorem cut_cl {h h' : hp_T} {σ σ' : rwT} {str : Nat} {v : Int32} (C : clS cI X h σ B T F bd) (O : obS X h) (hA : h'.2.2 (X + 10) = some (.inr (wdO X 5 str v))) (S' : tS cI X h' σ') (k : kR [X + 10] X h σ h' σ') (p : ∀ τ, τ ∉ [12, 14, 16] → (σ' τ).2.2 = (σ τ).2.2) : clS cI X h' σ' B T F bd ∧ obS X h' :=
  ⟨clS_go C S' k (by simp) (by simp) (by simp) (fun τ hτ => p τ (by revert τ; decide)), obS_go C.1 k O (by simp) (by simp) (Or.inr ⟨_, _, _, hA⟩) (Or.inl (by simp)) (Or.inl (by simp))⟩
theorem w_addresses {sa sb : Nat} (hT : (gl_t G)[0]? = some (cI, .int)) (hG : gSg G sa sb) {h : hp_T} {σ : rwT} (C : clS cI X h σ B T F bd) (O : obS X h) (f : Int32) (hf : hdT (nI F.length) f 1 ≠ -1) : ct_E G m_Mail_addresses [.ref X, .int f] h (cr (fun y h' => (∃ q : Int32, y = .int q) ∧ clA cI X h σ rA B T F bd h')) := by
  obtain ⟨S, H, C3, C4, -⟩ := id C
  obtain ⟨⟨a, b, c, O1⟩, -⟩ := id O
  refine ct_of (ws' := tb_all) rfl rfl (Nat.le_of_ble_eq_true rfl) ?_
  refine ev_aload_n d_Mail_addresses_0 rfl rfl ?_
  refine ev_get (fa_Mail_30 rfl rfl) d_Mail_addresses_1 C4 rfl ?_
  refine ev_aload_n d_Mail_addresses_4 rfl rfl ?_
  refine ev_get (fa_Mail_23 rfl rfl) d_Mail_addresses_5 C4 rfl ?_
  refine ev_Vv (ci := 2) [] [.ref (X + 10)] ca_Mail_addresses_102 d_Mail_addresses_8 rfl (H.1) rfl (Nat.le_of_ble_eq_true rfl) (c_Head_texts H.1) ?_
  refine ev_aload_n d_Mail_addresses_11 rfl rfl ?_
  refine ev_iload_n d_Mail_addresses_12 rfl rfl ?_
  refine ev_Vv (ci := 0) [.int f] [.ref (X + 5), .ref (X + 10)] ca_Mail_addresses_117 d_Mail_addresses_13 rfl (C4) rfl (Nat.le_of_ble_eq_true rfl) (w_valueOf C f hf) ?_
  refine ev_ldcS (tx := "<>:;@,.)]\\") hG.1.1 d_Mail_addresses_16 ?_
  refine ev_iconst (v := 1) d_Mail_addresses_18 (by decide) ?_
  refine ev_Vn (ci := 4) [.ref (X + 5), .int _, .ref sa, .int 1] [] ca_Mail_addresses_122 d_Mail_addresses_19 rfl (O1) rfl (Nat.le_of_ble_eq_true rfl) (w_cut hT hG.1.2 S O1 (hd_sz C f) 1) (fun h1 z => ?_)
  obtain ⟨hA1, σ1, S1, k1, p1⟩ := z
  obtain ⟨C1, Ob1⟩ := cut_cl C O hA1 S1 k1 p1
  obtain ⟨-, ⟨a2, b2, c2, O2⟩, -⟩ := id Ob1
  refine ev_aload_n d_Mail_addresses_22 rfl rfl ?_
  refine ev_get (fa_Mail_39 rfl rfl) d_Mail_addresses_23 C1.2.2.2.1 rfl ?_
  refine ev_Vn (ci := 5) [] [] ca_Mail_addresses_126 d_Mail_addresses_26 rfl (O2) rfl (Nat.le_of_ble_eq_true rfl) (w_areadWords hT S1 (obS_aO Ob1)) (fun h1 z => ?_)
  obtain ⟨Oa, σ2, S2, k2, p2⟩ := z
  have C2 := clS_go C1 S2 k2 (by simp) (by simp) (by simp) (fun τ hτ => p2 τ (by revert τ; decide))
  have Ob2 := obS_go S1 k2 Ob1 (by simp) (by simp) (Or.inl (by simp)) (Or.inr Oa.1) (Or.inl (by simp))
  obtain ⟨-, ⟨a3, b3, c3, O3⟩, -⟩ := id Ob2
  refine ev_aload_n d_Mail_addresses_29 rfl rfl ?_
  refine ev_get (fa_Mail_39 rfl rfl) d_Mail_addresses_30 C2.2.2.2.1 rfl ?_
  refine ev_Vv (ci := 5) [] [] ca_Mail_addresses_129 d_Mail_addresses_33 rfl (O3) rfl (Nat.le_of_ble_eq_true rfl) (w_acount S2 Ob2) ?_
  refine ev_iret d_Mail_addresses_36 rfl ?_
  exact ⟨_, rfl, ⟨_, rfl⟩, σ2, ⟨C2, Ob2⟩, kR_tr (kR_sub k1 (by simp)) (kR_sub k2 (by simp)), fun τ hτ => (p2 τ (fun z => hτ (List.mem_append_right _ z))).trans (p1 τ (fun z => hτ (List.mem_append_left _ z)))⟩
theorem w_identities (hNm : gl_nm G) (hT : (gl_t G)[0]? = some (cI, .int)) {h : hp_T} {σ : rwT} (C : clS cI X h σ B T F bd) (O : obS X h) (f : Int32) (hf : hdT (nI F.length) f 1 ≠ -1) : ct_E G m_Mail_identities [.ref X, .int f] h (cr (fun y h' => (∃ q : Int32, y = .int q) ∧ clQ cI X h σ [35, 37] B T F bd h')) := by
  obtain ⟨S, H, C3, C4, -⟩ := id C
  have m5 : (5 : Nat) ∈ txs := by decide
  have m34 : (34 : Nat) ∈ txs := by decide
  refine ct_of (ws' := tb_all) rfl rfl (Nat.le_of_ble_eq_true rfl) ?_
  refine ev_aload_n d_Mail_identities_0 rfl rfl ?_
  refine ev_get (fa_Mail_46 rfl rfl) d_Mail_identities_1 C4 rfl ?_
  refine ev_aload_n d_Mail_identities_4 rfl rfl ?_
  refine ev_get (fa_Mail_23 rfl rfl) d_Mail_identities_5 C4 rfl ?_
  refine ev_Vv (ci := 2) [] [.ref (X + 33)] ca_Mail_identities_102 d_Mail_identities_8 rfl (H.1) rfl (Nat.le_of_ble_eq_true rfl) (c_Head_texts H.1) ?_
  refine ev_aload_n d_Mail_identities_11 rfl rfl ?_
  refine ev_iload_n d_Mail_identities_12 rfl rfl ?_
  refine ev_Vv (ci := 0) [.int f] [.ref (X + 5), .ref (X + 33)] ca_Mail_identities_117 d_Mail_identities_13 rfl (C4) rfl (Nat.le_of_ble_eq_true rfl) (w_valueOf C f hf) ?_
  refine ev_Vn (ci := 6) [.ref (X + 5), .int _] [] ca_Mail_identities_130 d_Mail_identities_16 rfl (O.2.2.1) rfl (Nat.le_of_ble_eq_true rfl) (w_readBytes hNm hT S O.2.2.1 m5 _) (fun h1 z => ?_)
  obtain ⟨σ1, S1, r1, p1, -⟩ := z
  have k1 : kR [] X h σ h1 σ1 := kR_of r1
  have C1 := clS_go C S1 k1 (by simp) (by simp) (by simp) (fun τ hτ => p1 τ (by revert τ; decide))
  have Ob1 := obS_go S k1 O (by simp) (by simp) (Or.inl (by simp)) (Or.inl (by simp)) (Or.inl (by simp))
  refine ev_aload_n d_Mail_identities_19 rfl rfl ?_
  refine ev_get (fa_Mail_46 rfl rfl) d_Mail_identities_20 C1.2.2.2.1 rfl ?_
  refine ev_Vv (ci := 6) [] [] ca_Mail_identities_134 d_Mail_identities_23 rfl (Ob1.2.2.1) rfl (Nat.le_of_ble_eq_true rfl) (w_itexts Ob1) ?_
  refine ev_Vv (ci := 3) [] [] ca_Mail_identities_135 d_Mail_identities_26 rfl ((S1.2 34 m34)) rfl (Nat.le_of_ble_eq_true rfl) (c_Texts_count (tS_tx S1 m34)) ?_
  refine ev_iret d_Mail_identities_29 rfl ?_
  exact ⟨_, rfl, ⟨_, rfl⟩, σ1, ⟨C1, Ob1⟩, kR_sub k1 (by simp), p1⟩
theorem w_date {sa sb tm tz sm sz : Nat} (hNm : gl_nm G) (hT : (gl_t G)[0]? = some (cI, .int)) (hG : gSg G sa sb) (hD : gDt G tm tz sm sz) {h : hp_T} {σ : rwT} (C : clS cI X h σ B T F bd) (O : obS X h) (f : Int32) (hf : hdT (nI F.length) f 1 ≠ -1) : ct_E G m_Mail_date [.ref X, .int f] h (cr (fun y h' => (∃ q : Int64, y = .long q) ∧ clQ cI X h σ [12, 14, 16] B T F bd h')) := by
  obtain ⟨S, H, C3, C4, -⟩ := id C
  obtain ⟨⟨a, b, c, O1⟩, -⟩ := id O
  refine ct_of (ws' := tb_all) rfl rfl (Nat.le_of_ble_eq_true rfl) ?_
  refine ev_aload_n d_Mail_date_0 rfl rfl ?_
  refine ev_get (fa_Mail_30 rfl rfl) d_Mail_date_1 C4 rfl ?_
  refine ev_aload_n d_Mail_date_4 rfl rfl ?_
  refine ev_get (fa_Mail_23 rfl rfl) d_Mail_date_5 C4 rfl ?_
  refine ev_Vv (ci := 2) [] [.ref (X + 10)] ca_Mail_date_102 d_Mail_date_8 rfl (H.1) rfl (Nat.le_of_ble_eq_true rfl) (c_Head_texts H.1) ?_
  refine ev_aload_n d_Mail_date_11 rfl rfl ?_
  refine ev_iload_n d_Mail_date_12 rfl rfl ?_
  refine ev_Vv (ci := 0) [.int f] [.ref (X + 5), .ref (X + 10)] ca_Mail_date_117 d_Mail_date_13 rfl (C4) rfl (Nat.le_of_ble_eq_true rfl) (w_valueOf C f hf) ?_
  refine ev_ldcS (tx := "<>:;@,.)]\\") hG.1.1 d_Mail_date_16 ?_
  refine ev_iconst (v := 0) d_Mail_date_18 (by decide) ?_
  refine ev_Vn (ci := 4) [.ref (X + 5), .int _, .ref sa, .int 0] [] ca_Mail_date_122 d_Mail_date_19 rfl (O1) rfl (Nat.le_of_ble_eq_true rfl) (w_cut hT hG.1.2 S O1 (hd_sz C f) 0) (fun h1 z => ?_)
  obtain ⟨hA1, σ1, S1, k1, p1⟩ := z
  obtain ⟨C1, Ob1⟩ := cut_cl C O hA1 S1 k1 p1
  obtain ⟨-, -, -, ⟨a4, O4⟩, -⟩ := id Ob1
  refine ev_aload_n d_Mail_date_22 rfl rfl ?_
  refine ev_get (fa_Mail_53 rfl rfl) d_Mail_date_23 C1.2.2.2.1 rfl ?_
  refine ev_Vr (ci := 7) [] [] ca_Mail_date_136 d_Mail_date_26 rfl (O4) rfl (Nat.le_of_ble_eq_true rfl) (w_seconds hNm hT hD S1 (obS_dO Ob1)) (fun v h1 z => ?_)
  obtain ⟨⟨q, rfl⟩, d1⟩ := z
  have S2 := dS_go S1 (obS_dO Ob1) d1
  have D2 := dO_go (obS_dO Ob1) d1
  obtain ⟨p, rfl⟩ := d1
  have k2 : kR [X + 39] X h1 σ1 (hp_up h1 (X + 39) (.inr (dtO X p))) σ1 := kR_up (by simp)
  have C2 := clS_go C1 S2 k2 (by simp) (by simp) (by simp) (fun τ hτ => rfl)
  have Ob2 := obS_go S1 k2 Ob1 (by simp) (by simp) (Or.inl (by simp)) (Or.inl (by simp)) (Or.inr D2.1)
  refine ev_lret d_Mail_date_29 rfl ?_
  exact ⟨_, rfl, ⟨_, rfl⟩, σ1, ⟨C2, Ob2⟩, kR_tr (kR_sub k1 (by simp)) (kR_sub k2 (by simp)), p1⟩
theorem w_type {sa sb : Nat} (hNm : gl_nm G) (hT : (gl_t G)[0]? = some (cI, .int)) (hG : gSg G sa sb) {h : hp_T} {σ : rwT} (C : clS cI X h σ B T F bd) (O : obS X h) (f : Int32) (hf : hdT (nI F.length) f 1 ≠ -1) : ct_E G m_Mail_type [.ref X, .int f] h (cr (fun y h' => (∃ q : Int32, y = .int q) ∧ clQ cI X h σ rC B T F bd h')) := by
  obtain ⟨S, H, C3, C4, -⟩ := id C
  obtain ⟨⟨a, b, c, O1⟩, -⟩ := id O
  refine ct_of (ws' := tb_all) rfl rfl (Nat.le_of_ble_eq_true rfl) ?_
  refine ev_aload_n d_Mail_type_0 rfl rfl ?_
  refine ev_get (fa_Mail_30 rfl rfl) d_Mail_type_1 C4 rfl ?_
  refine ev_aload_n d_Mail_type_4 rfl rfl ?_
  refine ev_get (fa_Mail_23 rfl rfl) d_Mail_type_5 C4 rfl ?_
  refine ev_Vv (ci := 2) [] [.ref (X + 10)] ca_Mail_type_102 d_Mail_type_8 rfl (H.1) rfl (Nat.le_of_ble_eq_true rfl) (c_Head_texts H.1) ?_
  refine ev_aload_n d_Mail_type_11 rfl rfl ?_
  refine ev_iload_n d_Mail_type_12 rfl rfl ?_
  refine ev_Vv (ci := 0) [.int f] [.ref (X + 5), .ref (X + 10)] ca_Mail_type_117 d_Mail_type_13 rfl (C4) rfl (Nat.le_of_ble_eq_true rfl) (w_valueOf C f hf) ?_
  refine ev_ldcS (tx := "<>:;@,)]\\=/") hG.2.1 d_Mail_type_16 ?_
  refine ev_iconst (v := 0) d_Mail_type_18 (by decide) ?_
  refine ev_Vn (ci := 4) [.ref (X + 5), .int _, .ref sb, .int 0] [] ca_Mail_type_122 d_Mail_type_19 rfl (O1) rfl (Nat.le_of_ble_eq_true rfl) (w_cut hT hG.2.2 S O1 (hd_sz C f) 0) (fun h1 z => ?_)
  obtain ⟨hA1, σ1, S1, k1, p1⟩ := z
  obtain ⟨C1, Ob1⟩ := cut_cl C O hA1 S1 k1 p1
  obtain ⟨-, -, -, -, O5⟩ := id Ob1
  refine ev_aload_n d_Mail_type_22 rfl rfl ?_
  refine ev_get (fa_Mail_60 rfl rfl) d_Mail_type_23 C1.2.2.2.1 rfl ?_
  refine ev_Vr (ci := 8) [] [] ca_Mail_type_142 d_Mail_type_26 rfl (O5) rfl (Nat.le_of_ble_eq_true rfl) (w_creadWords hNm hT S1 (obS_cO Ob1)) (fun v h1 z => ?_)
  obtain ⟨rfl, σ2, S2, r2, p2, -⟩ := z
  have k2 := kR_of (O := []) r2
  have C2 := clS_go C1 S2 k2 (by simp) (by simp) (by simp) (fun τ hτ => p2 τ (by revert τ; decide))
  have Ob2 := obS_go S1 k2 Ob1 (by simp) (by simp) (Or.inl (by simp)) (Or.inl (by simp)) (Or.inl (by simp))
  generalize decide (rg (σ1 16).2.2 0 = 1 ∧ rg (σ1 16).2.2 1 = 47 ∧ rg (σ1 16).2.2 2 = 1) = q
  have hb : narrow .boolean (.int (bI q)) = .int (bI q) := by cases q <;> rfl
  refine ev_zret d_Mail_type_29 rfl hb ?_
  exact ⟨_, rfl, ⟨_, rfl⟩, σ2, ⟨C2, Ob2⟩, kR_tr (kR_sub k1 (by simp)) (kR_sub k2 (by simp)), fun τ hτ => (p2 τ (fun z => hτ (List.mem_append_right _ z))).trans (p1 τ (fun z => hτ (List.mem_append_left _ z)))⟩
theorem w_parameter (hNm : gl_nm G) (hT : (gl_t G)[0]? = some (cI, .int)) {h : hp_T} {σ : rwT} (C : clS cI X h σ B T F bd) (O : obS X h) : ct_E G m_Mail_parameter [.ref X] h (cr (fun y h' => (∃ q : Int32, y = .int q) ∧ clQ cI X h σ [2, 61, 63] B [] F bd h')) := by
  obtain ⟨S, H, C3, C4, -⟩ := id C
  have m2 : (2 : Nat) ∈ rws := by decide
  refine ct_of (ws' := tb_all) rfl rfl (Nat.le_of_ble_eq_true rfl) ?_
  refine ev_aload_n d_Mail_parameter_0 rfl rfl ?_
  refine ev_get (fa_Mail_60 rfl rfl) d_Mail_parameter_1 C4 rfl ?_
  refine ev_aload_n d_Mail_parameter_4 rfl rfl ?_
  refine ev_get (fa_Mail_16 rfl rfl) d_Mail_parameter_5 C4 rfl ?_
  refine ev_Vr (ci := 8) [.ref (X + 2)] [] ca_Mail_parameter_161 d_Mail_parameter_8 rfl (O.2.2.2.2) rfl (Nat.le_of_ble_eq_true rfl) (w_takeInHand hNm hT S (obS_cO O) m2) (fun v h1 z => ?_)
  obtain ⟨⟨q, rfl⟩, σ1, S1, r1, p1, -⟩ := z
  have k1 : kR [] X h σ h1 σ1 := kR_of r1
  have C1 := clS_go C S1 k1 (by simp) (by simp) (by simp) (fun τ hτ => p1 τ (by revert τ; decide))
  have Ob1 := obS_go S k1 O (by simp) (by simp) (Or.inl (by simp)) (Or.inl (by simp)) (Or.inl (by simp))
  refine ev_istore_n d_Mail_parameter_11 rfl (by decide) ?_
  refine ev_aload_n d_Mail_parameter_12 rfl rfl ?_
  refine ev_get (fa_Mail_16 rfl rfl) d_Mail_parameter_13 C1.2.2.2.1 rfl ?_
  refine ev_iconst (v := 0) d_Mail_parameter_16 (by decide) ?_
  refine ev_Vn (ci := 1) [.int 0] [] ca_Mail_parameter_89 d_Mail_parameter_17 rfl ((S1.1.1 _ m2).1.1) rfl (Nat.le_of_ble_eq_true rfl) (w_rcut S1 m2 0) (fun h1 z => ?_)
  obtain ⟨σ2, S2, r2, p2, p3⟩ := z
  have k2 := kR_of (O := []) r2
  have Ob2 := obS_go S1 k2 Ob1 (by simp) (by simp) (Or.inl (by simp)) (Or.inl (by simp)) (Or.inl (by simp))
  obtain ⟨-, H1, D3, D4, ⟨f5, D5, D6⟩, D7, D8, D9⟩ := C1
  have hX1 := S1.1.2.2
  obtain ⟨K5, K7⟩ := kR_arr k2 D7 (by simp) hX1
  refine ev_iload_n d_Mail_parameter_20 rfl rfl ?_
  refine ev_iret d_Mail_parameter_21 rfl ?_
  refine ⟨_, rfl, ⟨_, rfl⟩, σ2, ⟨⟨S2, ⟨rwR_obj S1.1 r2 H1.1 (by omega) (nrow (by decide)), by rw [p2 6 (by decide)]; exact H1.2.1, by rw [p2 8 (by decide)]; exact H1.2.2.1, H1.2.2.2⟩, D3, rwR_obj S1.1 r2 D4 (by omega) (nrow (q := 0) (by decide)), ⟨f5, by rw [K5]; exact D5, D6⟩, K7, by rw [p3]; rfl, by decide⟩, Ob2⟩, kR_tr (kR_sub k1 (by simp)) (kR_sub k2 (by simp)), fun τ hτ => (p2 τ (fun z => hτ (by simp at z; simp [z]))).trans (p1 τ (fun z => hτ (List.mem_cons_of_mem _ z)))⟩
end MAIL4
