/-! the class: whether it is a type, strong, and the law's helper of it -/
def gS2 (G : gl_G) (sa sb : Nat) : Prop := gSs G sa false ∧ gSs G sb true
theorem cwd_len (ty kp : Bool) : ∀ (n : Nat) (l : List Int32), l.length ≤ n → (cwd kp (wcut ty n l)).length ≤ l.length ∧ wdB (cwd kp (wcut ty n l)) ≤ l.length
  | 0, l, h => by simp [wcut, cwd, wdB]
  | n + 1, [], _ => by simp [wcut, cwd, wdB]
  | n + 1, c :: t, h => by
    simp only [List.length_cons] at h
    obtain ⟨a, b, d⟩ := w1_len ty kp c t
    obtain ⟨e, f⟩ := cwd_len ty kp n (w1 ty kp c t).2 (by omega)
    rw [w1_cut, List.length_append, wdB_app, List.length_cons]
    have hz : (w1 ty kp c t).1.length + (w1 ty kp c t).2.length ≤ t.length + 1 := by omega
    exact ⟨by omega, by omega⟩
/-- the parts of a type, as the class keeps them -/
def tyPs (W : Wds) : List (List Int32) := bif tyK (nc W) then [(((nc W).map (fun w => w.2.2)).getD 0 []).map sp_small, (((nc W).map (fun w => w.2.2)).getD 2 []).map sp_small] else []
theorem tyPs_P (P : Pts) (W : Wds) : tyPt P (tyA W) 5 ++ tyPt P (tyA W) 6 = tyPs W := by
  have hK := tyA_K W
  obtain ⟨a1, a2⟩ := nx_hd W 0
  obtain ⟨b1, b2⟩ := nx_hd W (nx W 0 W.length + 1)
  obtain ⟨c1, c2⟩ := nx_hd W (nx W (nx W 0 W.length + 1) W.length + 1)
  rw [List.drop_zero] at a1 a2
  rw [a2] at b1 b2
  rw [b2] at c1
  rw [List.drop_drop, List.getElem?_drop] at c1
  rw [List.getElem?_drop] at b1
  unfold tyPs
  rw [← hK]
  cases ha : tyA W with
  | none => simp [tyPt]
  | some x =>
    have hx : ∃ wa wb, (nc W)[0]? = some wa ∧ (nc W)[2]? = some wb ∧ x.1 = wa.2.2 ∧ x.2.1 = wb.2.2 := by
      unfold tyA at ha
      rw [a1, b1, c1] at ha
      cases h0 : (nc W)[0]? with
      | none => rw [h0] at ha; cases ha
      | some wa =>
        cases h1 : (nc W)[1 + 0]? with
        | none => rw [h0, h1] at ha; cases ha
        | some ws =>
          cases h2 : (nc W)[1 + 1 + 0]? with
          | none => rw [h0, h1, h2] at ha; cases ha
          | some wb =>
            rw [h0, h1, h2] at ha
            simp only at ha
            split at ha
            · cases ha
              exact ⟨wa, wb, rfl, rfl, rfl, rfl⟩
            · cases ha
    obtain ⟨wa, wb, e0, e2, e3, e4⟩ := hx
    have g0 : ((nc W).map (fun w => w.2.2)).getD 0 [] = x.1 := by rw [List.getD_eq_getElem?_getD, List.getElem?_map, e0, e3]; rfl
    have g2 : ((nc W).map (fun w => w.2.2)).getD 2 [] = x.2.1 := by rw [List.getD_eq_getElem?_getD, List.getElem?_map, e2, e4]; rfl
    rw [g0, g2]
    simp [tyPt]
section MAIL6
variable {G : gl_G} {cI cZ cJ : ClassId} {s170 sa sb : Nat} {X : Nat} {B T : List Int32} {F : Flds} {bd : Nat}
theorem y_type (hNm : gl_nm G) (hT : (gl_t G)[0]? = some (cI, .int)) (hG : gSg G sa sb) (hS2 : gS2 G sa sb) (hy : byS B T F) {h : hp_T} {σ : rwT} (C : clS cI X h σ B T F bd) (O : obS X h) {j : Nat} {q : List Int32 × List Int32} (hq : F[j]? = some q) (hf : hdT (nI F.length) (nI j) 1 = nI (2 * j + 1)) : ct_E G m_Mail_type [.ref X, .int (nI j)] h (cr (fun y h' => y = .int (bI (tyA (wcut true q.2.length q.2)).isSome) ∧ ∃ σ', (clS cI X h' σ' B T F bd ∧ obS X h') ∧ kR (mQ X) X h σ h' σ' ∧ (∀ τ, τ ∉ rC → (σ' τ).2.2 = (σ τ).2.2) ∧ ctQ σ' (tyQs (wcut true q.2.length q.2)) ∧ txH σ' 41 (tyPs (wcut true q.2.length q.2)) [])) := by
  obtain ⟨S, H, C3, C4, -⟩ := id C
  obtain ⟨⟨a, b, c, O1⟩, -⟩ := id O
  have hj := (List.getElem?_eq_some_iff.mp hq).1
  have h40 := H.2.2.2.2
  have hne : hdT (nI F.length) (nI j) 1 ≠ -1 := by
    rw [hf]
    exact fun z => nI_pos (n := 2 * j + 1) (by omega) (by rw [z]; decide)
  obtain ⟨hV, hl⟩ := hv_of C hq
  have hB := val_byt hy.2.2 hq
  refine ct_of (ws' := tb_all) rfl rfl (Nat.le_of_ble_eq_true rfl) ?_
  refine ev_aload_n d_Mail_type_0 rfl rfl ?_
  refine ev_get (fa_Mail_30 rfl rfl) d_Mail_type_1 C4 rfl ?_
  refine ev_aload_n d_Mail_type_4 rfl rfl ?_
  refine ev_get (fa_Mail_23 rfl rfl) d_Mail_type_5 C4 rfl ?_
  refine ev_Vv (ci := 2) [] [.ref (X + 10)] ca_Mail_type_102 d_Mail_type_8 rfl (H.1) rfl (Nat.le_of_ble_eq_true rfl) (c_Head_texts H.1) ?_
  refine ev_aload_n d_Mail_type_11 rfl rfl ?_
  refine ev_iload_n d_Mail_type_12 rfl rfl ?_
  refine ev_Vv (ci := 0) [.int (nI j)] [.ref (X + 5), .ref (X + 10)] ca_Mail_type_117 d_Mail_type_13 rfl (C4) rfl (Nat.le_of_ble_eq_true rfl) (w_valueOf C (nI j) hne) ?_
  rw [hf]
  refine ev_ldcS (tx := "<>:;@,)]\\=/") hG.2.1 d_Mail_type_16 ?_
  refine ev_iconst (v := 0) d_Mail_type_18 (by decide) ?_
  refine ev_Vn (ci := 4) [.ref (X + 5), .int _, .ref sb, .int (bI false)] [] ca_Mail_type_122 d_Mail_type_19 rfl (O1) rfl (Nat.le_of_ble_eq_true rfl) (z_cut hT hS2.2 hl hB false S O1 hV) (fun h1 z => ?_)
  obtain ⟨hA1, σ1, S1, k1, p1, W1⟩ := z
  obtain ⟨C1, Ob1⟩ := cut_cl C O hA1 S1 k1 p1
  obtain ⟨-, -, -, -, O5⟩ := id Ob1
  refine ev_aload_n d_Mail_type_22 rfl rfl ?_
  refine ev_get (fa_Mail_60 rfl rfl) d_Mail_type_23 C1.2.2.2.1 rfl ?_
  have hN : ∀ w ∈ nc (wcut true q.2.length q.2), wfW w := fun w hw => wcut_wf true _ _ w (List.mem_filter.mp hw).1
  have eW : cwd false (wcut true q.2.length q.2) = (nc (wcut true q.2.length q.2)).map wm := cwd_nc _
  rw [eW] at W1
  obtain ⟨g1, g2⟩ := cwd_len true false q.2.length q.2 (Nat.le_refl _)
  rw [eW, List.length_map] at g1
  rw [eW] at g2
  refine ev_Vr (ci := 8) [] [] ca_Mail_type_142 d_Mail_type_26 rfl (O5) rfl (Nat.le_of_ble_eq_true rfl) (z_readWords hNm hT hN (by omega) (by omega) S1 (obS_cO Ob1) W1) (fun v h1 z => ?_)
  obtain ⟨rfl, σ2, S2, r2, p2, Q2, T2⟩ := z
  have k2 := kR_of (O := []) r2
  have C2 := clS_go C1 S2 k2 (by simp) (by simp) (by simp) (fun τ hτ => p2 τ (by revert τ; decide))
  have Ob2 := obS_go S1 k2 Ob1 (by simp) (by simp) (Or.inl (by simp)) (Or.inl (by simp)) (Or.inl (by simp))
  rw [← tyQs_N] at Q2
  rw [← tyA_K]
  have hb : narrow .boolean (.int (bI (tyA (wcut true q.2.length q.2)).isSome)) = .int (bI (tyA (wcut true q.2.length q.2)).isSome) := by cases (tyA (wcut true q.2.length q.2)).isSome <;> rfl
  refine ev_zret d_Mail_type_29 rfl hb ?_
  exact ⟨_, rfl, rfl, σ2, ⟨C2, Ob2⟩, kR_tr (kR_sub k1 (by simp)) (kR_sub k2 (by simp)), fun τ hτ => (p2 τ (fun z => hτ (List.mem_append_right _ z))).trans (p1 τ (fun z => hτ (List.mem_append_left _ z))), Q2, T2⟩
theorem y_Law_type (hNm : gl_nm G) (hT : (gl_t G)[0]? = some (cI, .int)) (hJ : (gl_t G)[2]? = some (cJ, .long)) (hE : gl_ex G s170) (hG : gSg G sa sb) (hS2 : gS2 G sa sb) (hy : byS B T F) {h : hp_T} {σ : rwT} (C : clS cI X h σ B T F bd) (O : obS X h) (o : oC cJ X h) (f : Int32) : ct_E G m_Law_type [.ref X, .int f, .ref (X + 98)] h (cr (fun v h' => (v = .int 1 ∧ sp_isField (nI F.length) f = 0 ∧ hQs cI cJ X h σ B T F bd none (fun σ' => σ' = σ) h') ∨ ∃ (j : Nat) (q : List Int32 × List Int32), v = .int 0 ∧ f = nI j ∧ F[j]? = some q ∧ hQs cI cJ X h σ B T F bd (some (bif (tyA (wcut true q.2.length q.2)).isSome then 1 else 0)) (fun σ' => (∀ τ, τ ∉ rC → (σ' τ).2.2 = (σ τ).2.2) ∧ ctQ σ' (tyQs (wcut true q.2.length q.2)) ∧ txH σ' 41 (tyPs (wcut true q.2.length q.2)) []) h')) := by
  have m5 : (5 : Nat) ∈ txs := by decide
  obtain ⟨S, H, C3, C4, -⟩ := id C
  refine ct_ofH (hs := hs_Law_type) (ws' := tb_all) rfl rfl (Nat.le_of_ble_eq_true rfl) ?_
  rcases hd_cases H.2.2.2.2 f with ⟨hf, hs⟩ | ⟨j, q, rfl, hq, hf, hs⟩
  · refine ev_aload_n d_Law_type_0 rfl rfl ?_
    refine ev_iconst (v := 0) d_Law_type_1 (by decide) ?_
    refine ev_aload_n d_Law_type_2 rfl rfl ?_
    refine ev_iload_n d_Law_type_3 rfl rfl ?_
    refine ev_Vt (ci := 0) (a0 := 0) (a1 := 16) (hpc := 19) (ix := 13) [.int f] [.int 0, .ref (X + 98)] ca_Law_type_22 d_Law_type_4 rfl C4 rfl (Nat.le_of_ble_eq_true rfl) (x_type hE C4 H.1 (tS_tx S m5) f (by rw [hd_cnt C]; exact hf)) List.mem_cons_self (by decide) (by decide) (by decide) (List.mem_cons_of_mem _ tw_490) (fun U args hL => hE.2.1 U args hL _ (List.mem_of_getElem? (i := 7) rfl)) ?_
    refine ev_astore_n d_Law_type_19 rfl (by decide) ?_
    refine ev_iconst (v := 1) d_Law_type_20 (by decide) ?_
    refine ev_iret d_Law_type_21 rfl ?_
    exact ⟨_, rfl, Or.inl ⟨rfl, hs, hQs_more C O o⟩⟩
  · refine ev_aload_n d_Law_type_0 rfl rfl ?_
    refine ev_iconst (v := 0) d_Law_type_1 (by decide) ?_
    refine ev_aload_n d_Law_type_2 rfl rfl ?_
    refine ev_iload_n d_Law_type_3 rfl rfl ?_
    refine ev_Vr (ci := 0) [.int (nI j)] [.int 0, .ref (X + 98)] ca_Law_type_22 d_Law_type_4 rfl (C4) rfl (Nat.le_of_ble_eq_true rfl) (y_type hNm hT hG hS2 hy C O hq hf) (fun v h1 z => ?_)
    obtain ⟨rfl, σ1, ⟨C1, O1⟩, k1, f1, t1⟩ := z
    obtain ⟨f0, ho⟩ : oC cJ X h1 := mid_oC o (fun q q1 q2 => kR_mid C.1 k1 mQ_mid q1 q2)
    cases ht : (tyA (wcut true q.2.length q.2)).isSome with
    | false =>
      refine ev_if_eq (tgt := 14) d_Law_type_7 (by decide) (fun _ => ?_) (fun z => absurd rfl z)
      refine ev_lconst (v := 0) d_Law_type_14 (by decide) ?_
      refine ev_last hJ ho (pk_in 0 1 (by decide)) d_Law_type_15 ?_
      refine ev_goto (tgt := 22) d_Law_type_16 (by decide) ?_
      refine ev_iconst (v := 0) d_Law_type_22 (by decide) ?_
      refine ev_iret d_Law_type_23 rfl ?_
      exact ⟨_, rfl, Or.inr ⟨j, q, rfl, rfl, hq, by rw [ht]; exact hQs_up ⟨f1, t1⟩ C O C1 O1 k1⟩⟩
    | true =>
      refine ev_if_eq (tgt := 14) d_Law_type_7 (by decide) (fun z => absurd z (by decide)) (fun _ => ?_)
      refine ev_lconst (v := 1) d_Law_type_10 (by decide) ?_
      refine ev_goto (tgt := 15) d_Law_type_11 (by decide) ?_
      refine ev_last hJ ho (pk_in 0 1 (by decide)) d_Law_type_15 ?_
      refine ev_goto (tgt := 22) d_Law_type_16 (by decide) ?_
      refine ev_iconst (v := 0) d_Law_type_22 (by decide) ?_
      refine ev_iret d_Law_type_23 rfl ?_
      exact ⟨_, rfl, Or.inr ⟨j, q, rfl, rfl, hq, by rw [ht]; exact hQs_up ⟨f1, t1⟩ C O C1 O1 k1⟩⟩
end MAIL6
