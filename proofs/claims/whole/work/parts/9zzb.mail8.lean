/-! addresses, both sides: the calls, and the law's helper -/
theorem cwd_t : ∀ W : Wds, cwd true W = W.map wm
  | [] => rfl
  | w :: W => by
    rw [cwd, if_pos (Or.inl rfl), cwd_t W]
    rfl
theorem eW_cut (ty : Bool) : ∀ (n : Nat) (l : List Int32), l.length ≤ n → eW (wcut ty n l) ≤ 2 * l.length
  | 0, _, _ => Nat.zero_le _
  | n + 1, [], _ => Nat.zero_le _
  | n + 1, c :: t, h => by
    simp only [List.length_cons] at h ⊢
    have en : ∀ (isC : Bool) (cl : Int32), (encl isC cl 1 t).1.length + (encl isC cl 1 t).2.length ≤ t.length := fun isC cl => encl_len isC cl t.length 1 t (Nat.le_refl _)
    rw [wcut]
    by_cases h1 : ¬ sp_nothing c = 0
    · rw [if_pos h1]
      have := eW_cut ty n t (by omega)
      omega
    · rw [if_neg h1]
      by_cases h2 : c = 40
      · rw [if_pos h2, eW]
        have e1 := en true 41
        have := eW_cut ty n (encl true 41 1 t).2 (by omega)
        have e2 : ewt (0, 0, (encl true 41 1 t).1) = (encl true 41 1 t).1.length + 1 := by unfold ewt; rw [if_neg (show ¬ (0 : Int32) = 2 by decide)]
        omega
      · rw [if_neg h2]
        by_cases h3 : c = 34
        · rw [if_pos h3, eW]
          have e1 := en false 34
          have := eW_cut ty n (encl false 34 1 t).2 (by omega)
          have e2 : ewt (1, 0, (encl false 34 1 t).1) = (encl false 34 1 t).1.length + 1 := by unfold ewt; rw [if_neg (show ¬ (1 : Int32) = 2 by decide)]
          omega
        · rw [if_neg h3]
          by_cases h4 : c = 91
          · rw [if_pos h4, eW]
            have e1 := en false 93
            have := eW_cut ty n (encl false 93 1 t).2 (by omega)
            have e2 : ewt (2, 0, (encl false 93 1 t).1) = (encl false 93 1 t).1.length + 2 := by unfold ewt; rw [if_pos rfl]
            omega
          · rw [if_neg h4]
            by_cases h5 : isSg ty c = true
            · rw [if_pos h5, eW]
              have := eW_cut ty n t (by omega)
              have e2 : ewt (3, c, [c]) = 2 := by unfold ewt; rw [if_neg (show ¬ (3 : Int32) = 2 by decide)]; rfl
              omega
            · rw [if_neg h5, eW]
              have hat : isAt ty c = true := decide_eq_true ⟨by simpa using h1, h2, h3, h4, by simpa using h5⟩
              have hc := cnt_le (isAt ty) t
              rw [cnt_yes hat, List.take_succ_cons, List.drop_succ_cons]
              have := eW_cut ty n (t.drop (cnt (isAt ty) t)) (by rw [List.length_drop]; omega)
              rw [List.length_drop] at this
              have e2 : ewt (4, 0, c :: t.take (cnt (isAt ty) t)) = cnt (isAt ty) t + 2 := by
                unfold ewt
                rw [if_neg (show ¬ (4 : Int32) = 2 by decide)]
                simp only [List.length_cons, List.length_take]
                omega
              omega
section MAIL8
variable {G : gl_G} {cI cZ cJ : ClassId} {s170 sa sb : Nat} {X : Nat} {B T : List Int32} {F : Flds} {bd : Nat}
theorem y_addresses (hT : (gl_t G)[0]? = some (cI, .int)) (hG : gSg G sa sb) (hS2 : gS2 G sa sb) (hy : byS B T F) {h : hp_T} {σ : rwT} (C : clS cI X h σ B T F bd) (O : obS X h) {j : Nat} {q : List Int32 × List Int32} (hq : F[j]? = some q) (hf : hdT (nI F.length) (nI j) 1 = nI (2 * j + 1)) : ct_E G m_Mail_addresses [.ref X, .int (nI j)] h (cr (fun y h' => y = .int (nI (ad_S (wcut false q.2.length q.2)).1.length) ∧ ∃ σ', (clS cI X h' σ' B T F bd ∧ obS X h') ∧ kR (mA X) X h σ h' σ' ∧ (∀ τ, τ ∉ rA → (σ' τ).2.2 = (σ τ).2.2) ∧ acS X h' σ' (ad_S (wcut false q.2.length q.2)) (-1))) := by
  obtain ⟨S, H, C3, C4, -⟩ := id C
  obtain ⟨⟨a, b, c, O1⟩, -⟩ := id O
  have hj := (List.getElem?_eq_some_iff.mp hq).1
  have h40 := H.2.2.2.2
  have hne : hdT (nI F.length) (nI j) 1 ≠ -1 := by
    rw [hf]
    exact fun z => nI_pos (n := 2 * j + 1) (by omega) (by rw [z]; decide)
  obtain ⟨hV, hl⟩ := hv_of C hq
  have hB := val_byt hy.2.2 hq
  refine ct_of (ws' := tb_all) rfl rfl (Nat.le_of_ble_eq_true rfl) ?_
  refine ev_aload_n d_Mail_addresses_0 rfl rfl ?_
  refine ev_get (fa_Mail_30 rfl rfl) d_Mail_addresses_1 C4 rfl ?_
  refine ev_aload_n d_Mail_addresses_4 rfl rfl ?_
  refine ev_get (fa_Mail_23 rfl rfl) d_Mail_addresses_5 C4 rfl ?_
  refine ev_Vv (ci := 2) [] [.ref (X + 10)] ca_Mail_addresses_102 d_Mail_addresses_8 rfl (H.1) rfl (Nat.le_of_ble_eq_true rfl) (c_Head_texts H.1) ?_
  refine ev_aload_n d_Mail_addresses_11 rfl rfl ?_
  refine ev_iload_n d_Mail_addresses_12 rfl rfl ?_
  refine ev_Vv (ci := 0) [.int (nI j)] [.ref (X + 5), .ref (X + 10)] ca_Mail_addresses_117 d_Mail_addresses_13 rfl (C4) rfl (Nat.le_of_ble_eq_true rfl) (w_valueOf C (nI j) hne) ?_
  rw [hf]
  refine ev_ldcS (tx := "<>:;@,.)]\\") hG.1.1 d_Mail_addresses_16 ?_
  refine ev_iconst (v := 1) d_Mail_addresses_18 (by decide) ?_
  refine ev_Vn (ci := 4) [.ref (X + 5), .int _, .ref sa, .int (bI true)] [] ca_Mail_addresses_122 d_Mail_addresses_19 rfl (O1) rfl (Nat.le_of_ble_eq_true rfl) (z_cut hT hS2.1 hl hB true S O1 hV) (fun h1 z => ?_)
  obtain ⟨hA1, σ1, S1, k1, p1, W1⟩ := z
  obtain ⟨C1, Ob1⟩ := cut_cl C O hA1 S1 k1 p1
  obtain ⟨-, ⟨a2, b2, c2, O2⟩, -⟩ := id Ob1
  rw [cwd_t] at W1
  obtain ⟨g1, g2⟩ := cwd_len false true q.2.length q.2 (Nat.le_refl _)
  rw [cwd_t, List.length_map] at g1
  rw [cwd_t] at g2
  have g3 := eW_cut false q.2.length q.2 (Nat.le_refl _)
  refine ev_aload_n d_Mail_addresses_22 rfl rfl ?_
  refine ev_get (fa_Mail_39 rfl rfl) d_Mail_addresses_23 C1.2.2.2.1 rfl ?_
  refine ev_Vn (ci := 5) [] [] ca_Mail_addresses_126 d_Mail_addresses_26 rfl (O2) rfl (Nat.le_of_ble_eq_true rfl) (z_areadWords hT S1 (obS_aO Ob1) W1 (fun w hw => wcut_wf false _ _ w hw) (by omega) (by omega) (by omega)) (fun h1 z => ?_)
  obtain ⟨Oa, σ2, S2, k2, p2, B2⟩ := z
  have C2 := clS_go C1 S2 k2 (by simp) (by simp) (by simp) (fun τ hτ => p2 τ (by revert τ; decide))
  have Ob2 := obS_go S1 k2 Ob1 (by simp) (by simp) (Or.inl (by simp)) (Or.inr Oa.1) (Or.inl (by simp))
  obtain ⟨-, ⟨a3, b3, c3, O3⟩, -⟩ := id Ob2
  refine ev_aload_n d_Mail_addresses_29 rfl rfl ?_
  refine ev_get (fa_Mail_39 rfl rfl) d_Mail_addresses_30 C2.2.2.2.1 rfl ?_
  refine ev_Vv (ci := 5) [] [] ca_Mail_addresses_129 d_Mail_addresses_33 rfl (O3) rfl (Nat.le_of_ble_eq_true rfl) (w_acount S2 Ob2) ?_
  rw [B2.2.2.2, List.length_map]
  refine ev_iret d_Mail_addresses_36 rfl ?_
  exact ⟨_, rfl, rfl, σ2, ⟨C2, Ob2⟩, kR_tr (kR_sub k1 (by simp)) (kR_sub k2 (by simp)), fun τ hτ => (p2 τ (fun z => hτ (List.mem_append_right _ z))).trans (p1 τ (fun z => hτ (List.mem_append_left _ z))), B2⟩
/-- behind the helper of addresses -/
def hQa (cI cJ : ClassId) (X : Nat) (h : hp_T) (σ : rwT) (B T : List Int32) (F : Flds) (bd : Nat) (V : Option Int64) (K : hp_T → rwT → Prop) : hp_T → Prop := fun h' => ∃ σ', K h' σ' ∧ (clS cI X h' σ' B T F bd ∧ obS X h') ∧ (∃ g : Nat → Int64, h'.2.2 (X + 98) = some (.inl (cJ, 1, .inr (.inl g))) ∧ ∀ x, V = some x → g 0 = x) ∧ (∀ q, X + 70 ≤ q → q ≤ X + 97 → h'.2.2 q = h.2.2 q) ∧ bR h σ h' σ'
theorem y_Law_addresses (hT : (gl_t G)[0]? = some (cI, .int)) (hJ : (gl_t G)[2]? = some (cJ, .long)) (hE : gl_ex G s170) (hG : gSg G sa sb) (hS2 : gS2 G sa sb) (hy : byS B T F) {h : hp_T} {σ : rwT} (C : clS cI X h σ B T F bd) (O : obS X h) (o : oC cJ X h) (f : Int32) : ct_E G m_Law_addresses [.ref X, .int f, .ref (X + 98)] h (cr (fun v h' => (v = .int 1 ∧ sp_isField (nI F.length) f = 0 ∧ hQa cI cJ X h σ B T F bd none (fun h' σ' => h'.2.2 (X + 18) = h.2.2 (X + 18) ∧ σ' = σ) h') ∨ ∃ (j : Nat) (q : List Int32 × List Int32), v = .int 0 ∧ f = nI j ∧ F[j]? = some q ∧ hQa cI cJ X h σ B T F bd (some (nI (ad_S (wcut false q.2.length q.2)).1.length).toInt64) (fun h' σ' => (∀ τ, τ ∉ rA → (σ' τ).2.2 = (σ τ).2.2) ∧ acS X h' σ' (ad_S (wcut false q.2.length q.2)) (-1)) h')) := by
  have m5 : (5 : Nat) ∈ txs := by decide
  obtain ⟨S, H, C3, C4, -⟩ := id C
  refine ct_ofH (hs := hs_Law_addresses) (ws' := tb_all) rfl rfl (Nat.le_of_ble_eq_true rfl) ?_
  rcases hd_cases H.2.2.2.2 f with ⟨hf, hs⟩ | ⟨j, q, rfl, hq, hf, hs⟩
  · refine ev_aload_n d_Law_addresses_0 rfl rfl ?_
    refine ev_iconst (v := 0) d_Law_addresses_1 (by decide) ?_
    refine ev_aload_n d_Law_addresses_2 rfl rfl ?_
    refine ev_iload_n d_Law_addresses_3 rfl rfl ?_
    refine ev_Vt (ci := 0) (a0 := 0) (a1 := 9) (hpc := 12) (ix := 13) [.int f] [.int 0, .ref (X + 98)] ca_Law_addresses_7 d_Law_addresses_4 rfl C4 rfl (Nat.le_of_ble_eq_true rfl) (x_addresses hE C4 H.1 (tS_tx S m5) f (by rw [hd_cnt C]; exact hf)) List.mem_cons_self (by decide) (by decide) (by decide) (List.mem_cons_of_mem _ tw_490) (fun U args hL => hE.2.1 U args hL _ (List.mem_of_getElem? (i := 7) rfl)) ?_
    refine ev_astore_n d_Law_addresses_12 rfl (by decide) ?_
    refine ev_iconst (v := 1) d_Law_addresses_13 (by decide) ?_
    refine ev_iret d_Law_addresses_14 rfl ?_
    obtain ⟨g, hg⟩ := o
    exact ⟨_, rfl, Or.inl ⟨rfl, hs, σ, ⟨rfl, rfl⟩, ⟨clS_eq C (Nat.le_succ _) (fun _ _ _ => rfl), obS_eq O C.1.1.2.2 (fun _ _ _ => rfl)⟩, ⟨g, hg, fun x z => by cases z⟩, fun _ _ _ => rfl, ⟨by show h.1 + 1 + _ ≤ _; omega, by show h.2.1 + 6 + _ ≤ _; omega⟩⟩⟩
  · refine ev_aload_n d_Law_addresses_0 rfl rfl ?_
    refine ev_iconst (v := 0) d_Law_addresses_1 (by decide) ?_
    refine ev_aload_n d_Law_addresses_2 rfl rfl ?_
    refine ev_iload_n d_Law_addresses_3 rfl rfl ?_
    refine ev_Vr (ci := 0) [.int (nI j)] [.int 0, .ref (X + 98)] ca_Law_addresses_7 d_Law_addresses_4 rfl (C4) rfl (Nat.le_of_ble_eq_true rfl) (y_addresses hT hG hS2 hy C O hq hf) (fun v h1 z => ?_)
    obtain ⟨rfl, σ1, ⟨C1, O1⟩, k1, f1, t1⟩ := z
    obtain ⟨f0, ho⟩ : oC cJ X h1 := mid_oC o (fun q q1 q2 => kR_mid C.1 k1 mA_mid q1 q2)
    refine ev_i2l d_Law_addresses_7 ?_
    refine ev_last hJ ho (pk_in 0 1 (by decide)) d_Law_addresses_8 ?_
    refine ev_goto (tgt := 15) d_Law_addresses_9 (by decide) ?_
    refine ev_iconst (v := 0) d_Law_addresses_15 (by decide) ?_
    refine ev_iret d_Law_addresses_16 rfl ?_
    have hX := C1.1.1.2.2
    have hqq : ∀ (g : Nat → Int64) q, (q ≤ X + 69 ∨ X + 99 ≤ q) → q < h1.1 → (hp_up h1 (X + 98) (.inl (cJ, 1, .inr (.inl g)))).2.2 q = h1.2.2 q := fun g q q1 _ => hp_up_ne (by omega)
    refine ⟨_, rfl, Or.inr ⟨j, q, rfl, rfl, hq, σ1, ⟨f1, ?_⟩, ⟨clS_eq C1 (Nat.le_refl _) (hqq _), obS_eq O1 hX (hqq _)⟩, ⟨_, hp_up_self _ _ _, fun y z => by cases z; exact if_pos rfl⟩, fun q q1 q2 => by rw [hp_up_ne (by omega)]; exact kR_mid C.1 k1 mA_mid q1 (by omega), bR_of k1 ⟨rfl, rfl⟩⟩⟩
    exact ⟨by rw [hp_up_ne (by omega)]; exact t1.1, t1.2⟩
end MAIL8
section REF8
variable {G : gl_G} {cI cZ : ClassId} {h0 : hp_T} {M : Nat} {I : Nat → Int32} {R : Nat → Nat → Int32} {B T : List Int32} {F : Flds} {bd : Nat} {P : Pts} {gs : List Int32} {Q : List Prm} {hd ch : Option (List Int32)}
theorem q_addresses (hT : (gl_t G)[0]? = some (cI, .int)) (H : mI B T F bd P gs Q hd ch I R) (f : Int32) : ct_E G m_Model_addresses [.ref M, .int f] (mo_ov cI cZ h0 M I R) (cr (fun v h' => (sp_isField (nI F.length) f = 0 ∧ v = .int 0 ∧ h' = mo_ov cI cZ h0 M (upd I 0 1) R ∧ mI B T F bd P gs Q hd ch (upd I 0 1) R) ∨ ∃ (j : Nat) (q : List Int32 × List Int32) (P' : Pts) (gs' : List Int32) (I' : Nat → Int32) (R' : Nat → Nat → Int32), f = nI j ∧ F[j]? = some q ∧ v = .int (nI (ad_S (wcut false q.2.length q.2)).1.length) ∧ h' = mo_ov cI cZ h0 M I' R' ∧ mI B T F bd P' gs' Q hd ch I' R' ∧ adH (ad_S (wcut false q.2.length q.2)) P' gs' I' ∧ (∀ w, 4 ≤ w → P' w = P w) ∧ I' 0 = 0)) := by
  have H0 := H
  obtain ⟨⟨b1, b2⟩, ⟨t1, t2, t3⟩, ⟨f1, f2, f3, f4⟩, h4, ⟨⟨ml, p1⟩, p2, p3⟩, h6, ⟨c1, c2, c3, c4⟩⟩ := H
  refine ct_to (s_Model_addresses hT f1 f2 f3 f4 p1 f) ?_
  rintro o h' ⟨v, rfl, q⟩
  rcases q with ⟨q1, rfl, rfl⟩ | ⟨j, q, rfl, q2, P', ml', gs', I', R', rfl, rfl, g1, g2, g3, g4, g5, g6, g7⟩
  · exact ⟨_, rfl, Or.inl ⟨q1, rfl, rfl, mI_0 H0⟩⟩
  · refine ⟨_, rfl, Or.inr ⟨j, q, P', gs', I', R', rfl, q2, rfl, rfl, ⟨⟨b1, by rw [g7 1 (by decide)]; exact b2⟩, ⟨t1, by rw [g6 3 (by decide)]; exact t2, by rw [g7 2 (by decide)]; exact t3⟩, ⟨flds_R f1 (fun j j1 j2 => g7 j (by simp; omega)), by rw [g6 4 (by decide)]; exact f2, f3, f4⟩, by rw [g6 5 (by decide)]; exact h4, ⟨⟨ml', g1⟩, g2, ?_⟩, pmOk_R h6 (g6 27 (by decide)) (fun j j1 j2 => g7 j (by simp; omega)), ⟨by rw [g6 37 (by decide)]; exact c1, by rw [g6 38 (by decide)]; exact c2, by rw [g7 26 (by decide)]; exact c3, by rw [g7 27 (by decide)]; exact c4⟩⟩, g3, g4, g5⟩⟩
    rw [g3.2.2.2.2.1, g3.2.1, List.length_map, List.length_map]
end REF8
