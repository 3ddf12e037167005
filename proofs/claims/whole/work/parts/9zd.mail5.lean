/-! the class: identities, strong, and the law's helper of them -/
theorem hd_cases {F : Flds} (hF : F.length ≤ 40) (f : Int32) : (hdT (nI F.length) f 1 = -1 ∧ sp_isField (nI F.length) f = 0) ∨ ∃ (j : Nat) (q : List Int32 × List Int32), f = nI j ∧ F[j]? = some q ∧ hdT (nI F.length) f 1 = nI (2 * j + 1) ∧ ¬ sp_isField (nI F.length) f = 0 := by
  unfold hdT sp_isField
  by_cases h0 : f < 0
  · left
    rw [if_pos h0, if_neg (fun z => z.1 h0)]
    exact ⟨rfl, rfl⟩
  · rw [if_neg h0]
    obtain ⟨j, hj, rfl⟩ := nI_of h0
    by_cases h1 : nI F.length ≤ nI j
    · left
      rw [if_pos h1, if_neg (fun z => z.2 h1)]
      exact ⟨rfl, rfl⟩
    · have hlt : j < F.length := Nat.lt_of_not_le (fun q => h1 (nI_le q hj))
      right
      refine ⟨j, F[j], rfl, List.getElem?_eq_getElem hlt, ?_, ?_⟩
      · rw [if_neg h1, if_pos (Or.inr rfl)]
        have e : (2 : Int32) * nI j = nI (2 * j) := by
          rw [show (2 : Int32) = nI 2 from rfl]
          exact (Int32.ofNat_mul 2 j).symm
        rw [e, nI_1]
      · rw [if_pos ⟨h0, h1⟩]
        decide
theorem lg_same (x : Int64) : lg_cmp x x = 0 := by simp [lg_cmp]
section MAIL5
variable {G : gl_G} {cI cZ cJ : ClassId} {s170 : Nat} {X : Nat} {B T : List Int32} {F : Flds} {bd : Nat}
/-- a field's value, as the head's texts have it -/
theorem hv_of {h : hp_T} {σ : rwT} (C : clS cI X h σ B T F bd) {j : Nat} {q : List Int32 × List Int32} (hq : F[j]? = some q) : hv5 σ (nI (2 * j + 1)) q.2 ∧ q.2.length ≤ 1501 := by
  obtain ⟨S, H, C3, -⟩ := C
  have h5 := H.2.2.2.2
  refine ⟨⟨?_, fun i => ?_⟩, ?_⟩
  · rw [show (σ 8).2.2 = bnF F from H.2.2.1]; exact (szO_F h5 hq).2
  · rw [show (σ 8).2.2 = bnF F from H.2.2.1, show (σ 6).2.2 = fK F from H.2.1]; exact (btO_F h5 C3 hq i).2
  · obtain ⟨-, k2⟩ := fK_at hq
    by_cases h0 : q.2.length = 0
    · omega
    · have h1 := k2 (q.2.length - 1) (by omega)
      rw [List.getElem?_eq_getElem (show q.2.length - 1 < q.2.length by omega)] at h1
      have := (List.getElem?_eq_some_iff.mp h1).1
      omega
theorem y_identities (hNm : gl_nm G) (hT : (gl_t G)[0]? = some (cI, .int)) {h : hp_T} {σ : rwT} (C : clS cI X h σ B T F bd) (O : obS X h) {j : Nat} {q : List Int32 × List Int32} (hq : F[j]? = some q) (hf : hdT (nI F.length) (nI j) 1 = nI (2 * j + 1)) : ct_E G m_Mail_identities [.ref X, .int (nI j)] h (cr (fun y h' => y = .int (nI (idS q.2.length q.2).length) ∧ ∃ σ', (clS cI X h' σ' B T F bd ∧ obS X h') ∧ kR (mQ X) X h σ h' σ' ∧ (∀ τ, τ ∉ [35, 37] → (σ' τ).2.2 = (σ τ).2.2) ∧ txH σ' 34 (idS q.2.length q.2) [])) := by
  obtain ⟨S, H, C3, C4, -⟩ := id C
  have m5 : (5 : Nat) ∈ txs := by decide
  have m34 : (34 : Nat) ∈ txs := by decide
  have hj := (List.getElem?_eq_some_iff.mp hq).1
  have h40 := H.2.2.2.2
  have hne : hdT (nI F.length) (nI j) 1 ≠ -1 := by
    rw [hf]
    exact fun z => nI_pos (n := 2 * j + 1) (by omega) (by rw [z]; decide)
  obtain ⟨hV, hl⟩ := hv_of C hq
  refine ct_of (ws' := tb_all) rfl rfl (Nat.le_of_ble_eq_true rfl) ?_
  refine ev_aload_n d_Mail_identities_0 rfl rfl ?_
  refine ev_get (fa_Mail_46 rfl rfl) d_Mail_identities_1 C4 rfl ?_
  refine ev_aload_n d_Mail_identities_4 rfl rfl ?_
  refine ev_get (fa_Mail_23 rfl rfl) d_Mail_identities_5 C4 rfl ?_
  refine ev_Vv (ci := 2) [] [.ref (X + 33)] ca_Mail_identities_102 d_Mail_identities_8 rfl (H.1) rfl (Nat.le_of_ble_eq_true rfl) (c_Head_texts H.1) ?_
  refine ev_aload_n d_Mail_identities_11 rfl rfl ?_
  refine ev_iload_n d_Mail_identities_12 rfl rfl ?_
  refine ev_Vv (ci := 0) [.int (nI j)] [.ref (X + 5), .ref (X + 33)] ca_Mail_identities_117 d_Mail_identities_13 rfl (C4) rfl (Nat.le_of_ble_eq_true rfl) (w_valueOf C (nI j) hne) ?_
  rw [hf]
  refine ev_Vn (ci := 6) [.ref (X + 5), .int _] [] ca_Mail_identities_130 d_Mail_identities_16 rfl (O.2.2.1) rfl (Nat.le_of_ble_eq_true rfl) (y_readBytes hNm hT hl S O.2.2.1 hV) (fun h1 z => ?_)
  obtain ⟨σ1, S1, r1, p1, H1⟩ := z
  have k1 : kR [] X h σ h1 σ1 := kR_of r1
  have C1 := clS_go C S1 k1 (by simp) (by simp) (by simp) (fun τ hτ => p1 τ (by revert τ; decide))
  have Ob1 := obS_go S k1 O (by simp) (by simp) (Or.inl (by simp)) (Or.inl (by simp)) (Or.inl (by simp))
  refine ev_aload_n d_Mail_identities_19 rfl rfl ?_
  refine ev_get (fa_Mail_46 rfl rfl) d_Mail_identities_20 C1.2.2.2.1 rfl ?_
  refine ev_Vv (ci := 6) [] [] ca_Mail_identities_134 d_Mail_identities_23 rfl (Ob1.2.2.1) rfl (Nat.le_of_ble_eq_true rfl) (w_itexts Ob1) ?_
  refine ev_Vv (ci := 3) [] [] ca_Mail_identities_135 d_Mail_identities_26 rfl ((S1.2 34 m34)) rfl (Nat.le_of_ble_eq_true rfl) (c_Texts_count (tS_tx S1 m34)) ?_
  rw [show (σ1 (34 + 3)).2.2 = bnT (idS q.2.length q.2) from H1.2, bnT_len, nI_pred]
  refine ev_iret d_Mail_identities_29 rfl ?_
  exact ⟨_, rfl, rfl, σ1, ⟨C1, Ob1⟩, kR_sub k1 (by simp), p1, H1⟩
theorem kR_18 {h h' : hp_T} {σ σ' : rwT} (S : tS cI X h σ) (k : kR (mQ X) X h σ h' σ') (O : obS X h) : h'.2.2 (X + 18) = h.2.2 (X + 18) := by
  obtain ⟨-, ⟨a, b, c, h18⟩, -⟩ := O
  have hX := S.1.2.2
  rw [h18]
  exact kR_obj S k h18 (by omega) (by simp [mQ]) (nrow (by decide))
/-- behind a helper, with what it laid into the answer's cell -/
def hQs (cI cJ : ClassId) (X : Nat) (h : hp_T) (σ : rwT) (B T : List Int32) (F : Flds) (bd : Nat) (V : Option Int64) (K : rwT → Prop) : hp_T → Prop := fun h' => ∃ σ', K σ' ∧ (clS cI X h' σ' B T F bd ∧ obS X h') ∧ (∃ g : Nat → Int64, h'.2.2 (X + 98) = some (.inl (cJ, 1, .inr (.inl g))) ∧ ∀ x, V = some x → g 0 = x) ∧ (∀ q, X + 70 ≤ q → q ≤ X + 97 → h'.2.2 q = h.2.2 q) ∧ bR h σ h' σ' ∧ h'.2.2 (X + 18) = h.2.2 (X + 18)
theorem hQs_more {h : hp_T} {σ : rwT} (C : clS cI X h σ B T F bd) (O : obS X h) (o : oC cJ X h) : hQs cI cJ X h σ B T F bd none (fun σ' => σ' = σ) (hp_more h 1 6) := by
  obtain ⟨g, hg⟩ := o
  exact ⟨σ, rfl, ⟨clS_eq C (Nat.le_succ _) (fun _ _ _ => rfl), obS_eq O C.1.1.2.2 (fun _ _ _ => rfl)⟩, ⟨g, hg, fun x z => by cases z⟩, fun _ _ _ => rfl, ⟨by show h.1 + 1 + _ ≤ _; omega, by show h.2.1 + 6 + _ ≤ _; omega⟩, rfl⟩
theorem hQs_up {h h1 : hp_T} {σ σ' : rwT} {f : Nat → Int64} {x : Int64} {K : rwT → Prop} (hK : K σ') (C : clS cI X h σ B T F bd) (O : obS X h) (C' : clS cI X h1 σ' B T F bd) (O' : obS X h1) (k : kR (mQ X) X h σ h1 σ') : hQs cI cJ X h σ B T F bd (some x) K (hp_up h1 (X + 98) (.inl (cJ, 1, .inr (.inl (updL f 0 x))))) := by
  have hX := C'.1.1.2.2
  have hq : ∀ q, (q ≤ X + 69 ∨ X + 99 ≤ q) → q < h1.1 → (hp_up h1 (X + 98) (.inl (cJ, 1, .inr (.inl (updL f 0 x))))).2.2 q = h1.2.2 q := fun q q1 _ => hp_up_ne (by omega)
  exact ⟨σ', hK, ⟨clS_eq C' (Nat.le_refl _) hq, obS_eq O' hX hq⟩, ⟨_, hp_up_self _ _ _, fun y z => by cases z; exact if_pos rfl⟩, fun q q1 q2 => by rw [hp_up_ne (by omega)]; exact kR_mid C.1 k mQ_mid q1 (by omega), bR_of k ⟨rfl, rfl⟩, by rw [hp_up_ne (by omega)]; exact kR_18 C.1 k O⟩
theorem y_Law_identities (hNm : gl_nm G) (hT : (gl_t G)[0]? = some (cI, .int)) (hJ : (gl_t G)[2]? = some (cJ, .long)) (hE : gl_ex G s170) {h : hp_T} {σ : rwT} (C : clS cI X h σ B T F bd) (O : obS X h) (o : oC cJ X h) (f : Int32) : ct_E G m_Law_identities [.ref X, .int f, .ref (X + 98)] h (cr (fun v h' => (v = .int 1 ∧ sp_isField (nI F.length) f = 0 ∧ hQs cI cJ X h σ B T F bd none (fun σ' => σ' = σ) h') ∨ ∃ (j : Nat) (q : List Int32 × List Int32), v = .int 0 ∧ f = nI j ∧ F[j]? = some q ∧ hQs cI cJ X h σ B T F bd (some (nI (idS q.2.length q.2).length).toInt64) (fun σ' => (∀ τ, τ ∉ [35, 37] → (σ' τ).2.2 = (σ τ).2.2) ∧ txH σ' 34 (idS q.2.length q.2) []) h')) := by
  have m5 : (5 : Nat) ∈ txs := by decide
  obtain ⟨S, H, C3, C4, -⟩ := id C
  refine ct_ofH (hs := hs_Law_identities) (ws' := tb_all) rfl rfl (Nat.le_of_ble_eq_true rfl) ?_
  rcases hd_cases H.2.2.2.2 f with ⟨hf, hs⟩ | ⟨j, q, rfl, hq, hf, hs⟩
  · refine ev_aload_n d_Law_identities_0 rfl rfl ?_
    refine ev_iconst (v := 0) d_Law_identities_1 (by decide) ?_
    refine ev_aload_n d_Law_identities_2 rfl rfl ?_
    refine ev_iload_n d_Law_identities_3 rfl rfl ?_
    refine ev_Vt (ci := 0) (a0 := 0) (a1 := 9) (hpc := 12) (ix := 13) [.int f] [.int 0, .ref (X + 98)] ca_Law_identities_15 d_Law_identities_4 rfl C4 rfl (Nat.le_of_ble_eq_true rfl) (x_identities hE C4 H.1 (tS_tx S m5) f (by rw [hd_cnt C]; exact hf)) List.mem_cons_self (by decide) (by decide) (by decide) (List.mem_cons_of_mem _ tw_490) (fun U args hL => hE.2.1 U args hL _ (List.mem_of_getElem? (i := 7) rfl)) ?_
    refine ev_astore_n d_Law_identities_12 rfl (by decide) ?_
    refine ev_iconst (v := 1) d_Law_identities_13 (by decide) ?_
    refine ev_iret d_Law_identities_14 rfl ?_
    exact ⟨_, rfl, Or.inl ⟨rfl, hs, hQs_more C O o⟩⟩
  · refine ev_aload_n d_Law_identities_0 rfl rfl ?_
    refine ev_iconst (v := 0) d_Law_identities_1 (by decide) ?_
    refine ev_aload_n d_Law_identities_2 rfl rfl ?_
    refine ev_iload_n d_Law_identities_3 rfl rfl ?_
    refine ev_Vr (ci := 0) [.int (nI j)] [.int 0, .ref (X + 98)] ca_Law_identities_15 d_Law_identities_4 rfl (C4) rfl (Nat.le_of_ble_eq_true rfl) (y_identities hNm hT C O hq hf) (fun v h1 z => ?_)
    obtain ⟨rfl, σ1, ⟨C1, O1⟩, k1, f1, t1⟩ := z
    obtain ⟨f0, ho⟩ : oC cJ X h1 := mid_oC o (fun q q1 q2 => kR_mid C.1 k1 mQ_mid q1 q2)
    refine ev_i2l d_Law_identities_7 ?_
    refine ev_last hJ ho (pk_in 0 1 (by decide)) d_Law_identities_8 ?_
    refine ev_goto (tgt := 15) d_Law_identities_9 (by decide) ?_
    refine ev_iconst (v := 0) d_Law_identities_15 (by decide) ?_
    refine ev_iret d_Law_identities_16 rfl ?_
    exact ⟨_, rfl, Or.inr ⟨j, q, rfl, rfl, hq, hQs_up ⟨f1, t1⟩ C O C1 O1 k1⟩⟩
end MAIL5
