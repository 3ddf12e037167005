section ADR5
variable {G : gl_G} {cI cZ : ClassId} {h0 : hp_T} {M : Nat}
/-- what addresses leaves of a field -/
def adP (cI cZ : ClassId) (h0 : hp_T) (M : Nat) (I : Nat → Int32) (R : Nat → Nat → Int32) (P0 : Pts) : Value → hp_T → Prop := fun v h' => ∃ (P : Pts) (ml : Nat → Nat) (gs : List Int32) (I' : Nat → Int32) (R' : Nat → Nat → Int32), v = .int (nI (P 1).length) ∧ h' = mo_ov cI cZ h0 M I' R' ∧ pOk P ml R' ∧ hol (R' 18) 0 gs ∧ gs.length = (P 1).length ∧ (∀ w, 4 ≤ w → P w = P0 w) ∧ I' 0 = 0 ∧ sm [0, 12, 18, 24, 25, 39, 40, 41, 42, 43] I I' ∧ sm [8, 9, 10, 11, 12, 13, 14, 15, 16, 17, 18] R R'
theorem c_Model_addresses (hT : (gl_t G)[0]? = some (cI, .int)) {I : Nat → Int32} {R : Nat → Nat → Int32} {P : Pts} {ml : Nat → Nat} {F : Flds} (hF : flds F R) (hI4 : I 4 = nI F.length) (hF40 : F.length ≤ 40) (hk : (fK F).length ≤ 1501) (hP : pOk P ml R) (f : Int32) : ct_E G m_Model_addresses [.ref M, .int f] (mo_ov cI cZ h0 M I R) (cr (fun v h' => (sp_isField (nI F.length) f = 0 ∧ v = .int 0 ∧ h' = mo_ov cI cZ h0 M (upd I 0 1) R) ∨ ∃ (j : Nat) (q : List Int32 × List Int32), f = nI j ∧ F[j]? = some q ∧ adP cI cZ h0 M I R P v h')) := by
  refine ct_of (ws' := tb_all) rfl rfl (Nat.le_of_ble_eq_true rfl) ?_
  refine ev_aload_n d_Model_addresses_0 rfl rfl ?_
  refine ev_aload_n d_Model_addresses_1 rfl rfl ?_
  refine ev_iload_n d_Model_addresses_2 rfl rfl ?_
  refine mo_Vv [.int f] [.ref M] ca_Model_addresses_137 d_Model_addresses_3 rfl (Nat.le_of_ble_eq_true rfl) (c_Model_isField f) ?_
  rw [hI4]
  refine ev_if_eq (tgt := 13) d_Model_addresses_6 (by decide) (fun c_6 => ?_) (fun c_6 => ?_)
  · refine ev_iconst (v := 1) d_Model_addresses_13 (by decide) ?_
    refine mo_put (fp_Model_99 rfl rfl) d_Model_addresses_14 (Nat.le_of_ble_eq_true rfl) rfl rfl rfl ?_
    refine ev_aload_n d_Model_addresses_17 rfl rfl ?_
    refine mo_get (fa_Model_99 rfl rfl) d_Model_addresses_18 rfl ?_
    refine ev_if_eq (tgt := 26) d_Model_addresses_21 (by decide) (fun z => absurd (show (1 : Int32) = 0 from z) (by decide)) (fun _ => ?_)
    refine ev_iconst (v := 0) d_Model_addresses_24 (by decide) ?_
    refine ev_iret d_Model_addresses_25 rfl ?_
    exact ⟨_, rfl, Or.inl ⟨c_6, rfl, rfl⟩⟩
  · obtain ⟨j, hj, rfl⟩ := isF_1 (by omega) c_6
    have hq : F[j]? = some F[j] := List.getElem?_eq_getElem hj
    generalize F[j] = q at hq
    have hqv : q.2.length ≤ 1501 := by
      obtain ⟨na, va, r3, r5, b1, b2, n1, n2⟩ := flds_name hF hq
      omega
    refine ev_iconst (v := 0) d_Model_addresses_9 (by decide) ?_
    refine ev_goto (tgt := 14) d_Model_addresses_10 (by decide) ?_
    refine mo_put (fp_Model_99 rfl rfl) d_Model_addresses_14 (Nat.le_of_ble_eq_true rfl) rfl rfl rfl ?_
    refine ev_aload_n d_Model_addresses_17 rfl rfl ?_
    refine mo_get (fa_Model_99 rfl rfl) d_Model_addresses_18 rfl ?_
    refine ev_if_eq (tgt := 26) d_Model_addresses_21 (by decide) (fun _ => ?_) (fun z => absurd rfl z)
    refine ev_aload_n d_Model_addresses_26 rfl rfl ?_
    refine ev_iload_n d_Model_addresses_27 rfl rfl ?_
    refine ev_iconst (v := 0) d_Model_addresses_28 (by decide) ?_
    refine mo_Vn [.int (nI j), .int (bI false)] [] ca_Model_addresses_251 d_Model_addresses_29 rfl (Nat.le_of_ble_eq_true rfl) (c_Model_cut hT hF hF40 hk hq false) (fun h1 z => ?_)
    obtain ⟨I1, R1, rfl, w1, w2, w3, w4⟩ := z
    obtain ⟨-, wl, wb⟩ := wcut_len false q.2.length q.2 (Nat.le_refl _)
    generalize wcut false q.2.length q.2 = W at w1 wl wb
    have hP1 : pOk P ml R1 := pOk_R hP (fun j j1 j2 => w4 j (by simp; omega))
    refine ev_aload_n d_Model_addresses_32 rfl rfl ?_
    refine ev_iconst (v := 0) d_Model_addresses_33 (by decide) ?_
    refine ev_iconst (v := 3) d_Model_addresses_34 (by decide) ?_
    refine ev_iconst (v := 0) d_Model_addresses_35 (by decide) ?_
    refine mo_Vn [.int (nI 0), .int (nI 3), .int (nI 0)] [] ca_Model_addresses_255 d_Model_addresses_36 rfl (Nat.le_of_ble_eq_true rfl) (c_Model_forget hT hP1 (f := 0) (l := 3) (a := 0) (by decide) (by decide) (by decide) (by decide +kernel)) (fun h1 z => ?_)
    obtain ⟨R2, rfl, f1, f2⟩ := z
    have hW2 : wOk W (upd (upd I1 24 0) 25 0) R2 := wOk_R (wOk_I w1 rfl rfl) (fun j j1 j2 => f2 j (by simp; omega))
    refine ev_aload_n d_Model_addresses_39 rfl rfl ?_
    refine ev_iconst (v := 0) d_Model_addresses_40 (by decide) ?_
    refine mo_put (fp_Model_248 rfl rfl) d_Model_addresses_41 (Nat.le_of_ble_eq_true rfl) rfl rfl rfl ?_
    refine ev_aload_n d_Model_addresses_44 rfl rfl ?_
    refine ev_iconst (v := 0) d_Model_addresses_45 (by decide) ?_
    refine mo_put (fp_Model_227 rfl rfl) d_Model_addresses_46 (Nat.le_of_ble_eq_true rfl) rfl rfl rfl ?_
    refine ev_iconst (v := (-1)) d_Model_addresses_49 (by decide) ?_
    refine ev_istore_n d_Model_addresses_50 rfl (by decide) ?_
    refine ev_iconst (v := 0) d_Model_addresses_51 (by decide) ?_
    refine ev_istore_n d_Model_addresses_52 rfl (by decide) ?_
    refine ev_iconst (v := 0) d_Model_addresses_53 (by decide) ?_
    refine ev_istore d_Model_addresses_54 (by decide) ?_
    refine ev_iconst (v := 0) d_Model_addresses_56 (by decide) ?_
    refine ev_istore d_Model_addresses_57 (by decide) ?_
    refine ev_as [(0, .ref M), (1, .int (nI j)), (2, .int (-1)), (3, .int (nI 0)), (4, .int 0), (5, .int (nI 0))] ⟨rfl, rfl, rfl, rfl, rfl, rfl, trivial⟩ ?_
    refine ev_to (l_Model_addresses (P0 := P) (ml0 := upN ml 0 0) (I0 := upd (upd I1 24 0) 25 0) (R0 := R2) hT (by omega) (by omega) (W.length + 1) 0 0 (-1) 0 _ R2 (by omega) (by omega) (Nat.le_refl _) (Or.inl rfl) hW2 (sm_rf _ _) (sm_rf _ _) ⟨_, _, [], f1, hol_nil _ _, rfl, rfl, rfl, fun w hw => if_neg (by omega), fun i hi => rfl, Nat.zero_le _, Nat.zero_le _, rfl, fun _ => Nat.zero_le _, Nat.zero_le _, fun _ o w o1 o2 => absurd o2 (Nat.not_lt_zero _)⟩) ?_
    rintro o h' ⟨v, rfl, P', ml', gs, I', R', rfl, rfl, g1, g2, g3, g4, g5, g6, g7⟩
    refine ⟨_, rfl, Or.inr ⟨j, q, rfl, hq, P', ml', gs, I', R', rfl, rfl, g1, g2, g3, g4, ?_, fun i hi => ?_, sm_tr (sm_mono w4 (by decide)) (sm_tr (sm_mono f2 (by decide)) (sm_mono g7 (by decide)))⟩⟩
    · rw [g6 0 (by decide)]
      show I1 0 = 0
      rw [w3 0 (by decide)]
      rfl
    · simp only [List.mem_cons, List.not_mem_nil, or_false, not_or] at hi
      rw [g6 i (by simp [hi]), upd_ne hi.2.2.2.2.1, upd_ne hi.2.2.2.1, w3 i (by simp [hi]), upd_ne hi.1]
end ADR5
