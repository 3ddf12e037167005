section DREF5
variable {G : gl_G} {cI cZ : ClassId} {h0 : hp_T} {M : Nat} {R : Nat → Nat → Int32}
/-- date, strong -/
theorem z_date (hT : (gl_t G)[0]? = some (cI, .int)) {I : Nat → Int32} {F : Flds} (hF : flds F R) (hI4 : I 4 = nI F.length) (hF40 : F.length ≤ 40) (hk : (fK F).length ≤ 1501) (f : Int32) : ct_E G m_Model_date [.ref M, .int f] (mo_ov cI cZ h0 M I R) (cr (fun v h' => (sp_isField (nI F.length) f = 0 ∧ v = .long 0 ∧ h' = mo_ov cI cZ h0 M (upd I 0 1) R) ∨ ∃ (j : Nat) (q : List Int32 × List Int32), f = nI j ∧ F[j]? = some q ∧ v = .long (dvl q.2) ∧ ∃ I' R', h' = mo_ov cI cZ h0 M I' R' ∧ I' 0 = 0 ∧ sm [0, 12, 18, 39, 40, 41, 44] I I' ∧ sm [8, 9, 10, 11, 12] R R')) := by
  refine ct_of (ws' := tb_all) rfl rfl (Nat.le_of_ble_eq_true rfl) ?_
  refine ev_ldc2 (v := (-9223372036854775808)) (List.mem_cons_of_mem _ tw_1251) d_Model_date_0 ?_
  refine ev_lstore_n d_Model_date_3 rfl (by decide) ?_
  refine ev_aload_n d_Model_date_4 rfl rfl ?_
  refine ev_aload_n d_Model_date_5 rfl rfl ?_
  refine ev_iload_n d_Model_date_6 rfl rfl ?_
  refine mo_Vv [.int f] [.ref M] ca_Model_date_137 d_Model_date_7 rfl (Nat.le_of_ble_eq_true rfl) (c_Model_isField f) ?_
  rw [hI4]
  refine ev_if_eq (tgt := 17) d_Model_date_10 (by decide) (fun c_10 => ?_) (fun c_10 => ?_)
  · refine ev_iconst (v := 1) d_Model_date_17 (by decide) ?_
    refine mo_put (fp_Model_99 rfl rfl) d_Model_date_18 (Nat.le_of_ble_eq_true rfl) rfl rfl rfl ?_
    refine ev_aload_n d_Model_date_21 rfl rfl ?_
    refine mo_get (fa_Model_99 rfl rfl) d_Model_date_22 rfl ?_
    refine ev_if_eq (tgt := 30) d_Model_date_25 (by decide) (fun z => absurd (show (1 : Int32) = 0 from z) (by decide)) (fun _ => ?_)
    refine ev_lconst (v := 0) d_Model_date_28 (by decide) ?_
    refine ev_lret d_Model_date_29 rfl ?_
    exact ⟨_, rfl, Or.inl ⟨c_10, rfl, rfl⟩⟩
  · obtain ⟨j, hj, rfl⟩ := isF_1 (by omega) c_10
    have hq : F[j]? = some F[j] := List.getElem?_eq_getElem hj
    generalize F[j] = q at hq
    have hqv : q.2.length ≤ 1501 := by
      obtain ⟨na, va, r3, r5, b1, b2, n1, n2⟩ := flds_name hF hq
      omega
    refine ev_iconst (v := 0) d_Model_date_13 (by decide) ?_
    refine ev_goto (tgt := 18) d_Model_date_14 (by decide) ?_
    refine mo_put (fp_Model_99 rfl rfl) d_Model_date_18 (Nat.le_of_ble_eq_true rfl) rfl rfl rfl ?_
    refine ev_aload_n d_Model_date_21 rfl rfl ?_
    refine mo_get (fa_Model_99 rfl rfl) d_Model_date_22 rfl ?_
    refine ev_if_eq (tgt := 30) d_Model_date_25 (by decide) (fun _ => ?_) (fun z => absurd rfl z)
    refine ev_aload_n d_Model_date_30 rfl rfl ?_
    refine ev_iload_n d_Model_date_31 rfl rfl ?_
    refine ev_iconst (v := 0) d_Model_date_32 (by decide) ?_
    refine mo_Vn [.int (nI j), .int (bI false)] [] ca_Model_date_251 d_Model_date_33 rfl (Nat.le_of_ble_eq_true rfl) (c_Model_cut hT hF hF40 hk hq false) (fun h1 z => ?_)
    obtain ⟨I1, R1, rfl, w1, w2, w3, w4⟩ := z
    obtain ⟨-, wl, wb⟩ := wcut_len false q.2.length q.2 (Nat.le_refl _)
    obtain ⟨W, hWe⟩ : ∃ W, wcut false q.2.length q.2 = W := ⟨_, rfl⟩
    rw [hWe] at w1 wl wb
    have hV : dvl q.2 = dtK (nc W) (wkd (nc W)) := by unfold dvl; rw [hWe]
    have hl : W.length ≤ 1501 := by omega
    have hb : (wB W).length ≤ 1501 := by omega
    have fin : ∀ (k : Nat), wkd (nc W) = k → ∀ (I2 : Nat → Int32), sm [44] I1 I2 → ∀ o h', dPs cI cZ h0 M R1 (tS1 (nc W) k) I2 o h' → (cr (fun v h' => (sp_isField (nI F.length) (nI j) = 0 ∧ v = .long 0 ∧ h' = mo_ov cI cZ h0 M (upd I 0 1) R) ∨ ∃ (j' : Nat) (q : List Int32 × List Int32), nI j = nI j' ∧ F[j']? = some q ∧ v = .long (dvl q.2) ∧ ∃ I' R', h' = mo_ov cI cZ h0 M I' R' ∧ I' 0 = 0 ∧ sm [0, 12, 18, 39, 40, 41, 44] I I' ∧ sm [8, 9, 10, 11, 12] R R')) o h' := by
      rintro k rfl I2 s2 o h' ⟨v, rfl, rfl, I3, rfl, s3⟩
      refine ⟨_, rfl, Or.inr ⟨j, q, rfl, hq, by rw [hV, tS1_eq], I3, R1, rfl, ?_, fun i hi => ?_, w4⟩⟩
      · rw [s3 0 (by decide), s2 0 (by decide), w3 0 (by decide)]; rfl
      · simp only [List.mem_cons, List.not_mem_nil, or_false, not_or] at hi
        rw [s3 i (by simp [hi]), s2 i (by simp [hi]), w3 i (by simp [hi]), upd_ne hi.1]
    have hp0 := ps_0 W
    have hp1 := ps_s hp0
    have hp2 := ps_s hp1
    refine ev_aload_n d_Model_date_36 rfl rfl ?_
    refine ev_aload_n d_Model_date_37 rfl rfl ?_
    refine ev_iconst (v := 0) d_Model_date_38 (by decide) ?_
    refine ev_aload_n d_Model_date_39 rfl rfl ?_
    refine mo_get (fa_Model_149 rfl rfl) d_Model_date_40 rfl ?_
    rw [w1.1]
    refine mo_Vv [.int (nI 0), .int (nI W.length)] [.ref M] ca_Model_date_197 d_Model_date_43 rfl (Nat.le_of_ble_eq_true rfl) (c_Model_next hT w1 hl (Nat.le_refl _) (by omega)) ?_
    have hn0 : nx W 0 W.length ≤ 1501 := by have := nx_le W (a := 0) (b := W.length) (by omega) (Nat.le_refl _); omega
    generalize nx W 0 W.length = w0 at hn0 hp0 hp1 hp2 ⊢
    refine mo_put (fp_Model_265 rfl rfl) d_Model_date_46 (Nat.le_of_ble_eq_true rfl) rfl rfl rfl ?_
    have hW1 : wOk W (upd I1 44 (nI w0)) R1 := wOk_I w1 rfl rfl
    have h440 : (upd I1 44 (nI w0)) 44 = nI w0 := by simp [upd]
    refine ev_aload_n d_Model_date_49 rfl rfl ?_
    refine ev_aload_n d_Model_date_50 rfl rfl ?_
    refine mo_get (fa_Model_265 rfl rfl) d_Model_date_51 rfl ?_
    rw [h440]
    refine ev_iconst (v := 1) d_Model_date_54 (by decide) ?_
    refine ev_iadd d_Model_date_55 ?_
    rw [nI_1]
    refine ev_aload_n d_Model_date_56 rfl rfl ?_
    refine mo_get (fa_Model_149 rfl rfl) d_Model_date_57 rfl ?_
    rw [hW1.1]
    refine mo_Vv [.int (nI (w0 + 1)), .int (nI W.length)] [] ca_Model_date_197 d_Model_date_60 rfl (Nat.le_of_ble_eq_true rfl) (c_Model_next hT hW1 hl (Nat.le_refl _) (by omega)) ?_
    have hnb := nxs (W := W) (c := 1501) hl hn0 (by decide)
    generalize nx W (w0 + 1) W.length = be at hnb hp1 hp2 ⊢
    refine ev_istore d_Model_date_63 (by decide) ?_
    refine ev_aload_n d_Model_date_65 rfl rfl ?_
    refine mo_get (fa_Model_265 rfl rfl) d_Model_date_66 rfl ?_
    rw [h440]
    refine ev_aload_n d_Model_date_69 rfl rfl ?_
    refine mo_get (fa_Model_149 rfl rfl) d_Model_date_70 rfl ?_
    rw [hW1.1]
    refine ev_as [(0, .ref M), (2, .long noD), (4, .int (nI be))] ⟨rfl, rfl, rfl, trivial⟩ ?_
    have back : wkd (nc W) = 0 → ev_E G m_Model_date 125 [(0, .ref M), (2, .long noD), (4, .int (nI be))] [] (mo_ov cI cZ h0 M (upd I1 44 (nI w0)) R1) _ := fun k0 => ev_as [(0, .ref M), (2, .long noD)] ⟨rfl, rfl, trivial⟩ (ev_to (z_date125 hT hW1 hl hb h440 (by omega) hp0) (fin 0 k0 _ (sm_upd (by decide))))
    cases q0 : W[w0]? with
    | none =>
      have h1 := List.getElem?_eq_none_iff.mp q0
      refine ev_icmp_ge (tgt := 125) d_Model_date_73 (by decide) (fun _ => ?_) (fun z => absurd (nI_le h1 (by omega)) z)
      exact back (if_neg (fun z => by have z2 := z.2; rw [← hp0.1, q0] at z2; cases z2))
    | some wa =>
      have hlt := lt_of q0
      refine ev_icmp_ge (tgt := 125) d_Model_date_73 (by decide) (fun z => absurd z (nI_ge hlt (by omega))) (fun _ => ?_)
      have i8 : vp_in (nI w0) (mo_len 8) := vp_in_nI (show w0 < 1501 by omega) (by decide)
      have r8 := (hW1.2.2.2 w0 wa q0).1
      refine ev_aload_n d_Model_date_76 rfl rfl ?_
      refine mo_get (fa_Model_31 rfl rfl) d_Model_date_77 rfl ?_
      refine ev_aload_n d_Model_date_80 rfl rfl ?_
      refine mo_get (fa_Model_265 rfl rfl) d_Model_date_81 rfl ?_
      rw [h440]
      refine mo_ald hT d_Model_date_84 (by decide) i8 ?_
      refine ev_iconst (v := 4) d_Model_date_85 (by decide) ?_
      rw [nI_clamp (by omega), r8]
      by_cases wa4 : wa.1 = 4
      rotate_left
      · refine ev_icmp_ne (tgt := 125) d_Model_date_86 (by decide) (fun _ => ?_) (fun z => absurd z wa4)
        exact back (if_neg (fun z => by have z2 := z.2; rw [← hp0.1, q0] at z2; exact wa4 (of_decide_eq_true z2)))
      refine ev_icmp_ne (tgt := 125) d_Model_date_86 (by decide) (fun z => absurd wa4 z) (fun _ => ?_)
      refine ev_iload d_Model_date_89 rfl ?_
      refine ev_aload_n d_Model_date_91 rfl rfl ?_
      refine mo_get (fa_Model_149 rfl rfl) d_Model_date_92 rfl ?_
      rw [hW1.1]
      cases q1 : W[be]? with
      | none =>
        have h1 := List.getElem?_eq_none_iff.mp q1
        refine ev_icmp_ge (tgt := 125) d_Model_date_95 (by decide) (fun _ => ?_) (fun z => absurd (nI_le h1 (by omega)) z)
        exact back (if_neg (fun z => by have z2 := z.1; rw [← hp1.1, q1] at z2; cases z2))
      | some wb =>
        have hbl := lt_of q1
        refine ev_icmp_ge (tgt := 125) d_Model_date_95 (by decide) (fun z => absurd z (nI_ge hbl (by omega))) (fun _ => ?_)
        refine ev_aload_n d_Model_date_98 rfl rfl ?_
        refine ev_iload d_Model_date_99 rfl ?_
        refine ev_bipush (v := 44) d_Model_date_101 (by decide) ?_
        refine mo_Vv [.int (nI be), .int 44] [] ca_Model_date_200 d_Model_date_103 rfl (Nat.le_of_ble_eq_true rfl) (c_Model_is hT hW1 hl q1 44) ?_
        cases c4 : wIs wb 44 with
        | false =>
          refine ev_if_eq (tgt := 125) d_Model_date_106 (by decide) (fun _ => ?_) (fun z => absurd rfl z)
          exact back (if_neg (fun z => by have z2 := z.1; rw [← hp1.1, q1] at z2; rw [show isC (some wb) 44 = false from c4] at z2; cases z2))
        | true =>
          refine ev_if_eq (tgt := 125) d_Model_date_106 (by decide) (fun z => absurd z (by decide)) (fun _ => ?_)
          have k2 : wkd (nc W) = 2 := if_pos ⟨by rw [← hp1.1, q1]; exact c4, by rw [← hp0.1, q0]; exact decide_eq_true wa4⟩
          refine ev_aload_n d_Model_date_109 rfl rfl ?_
          refine ev_aload_n d_Model_date_110 rfl rfl ?_
          refine ev_iload d_Model_date_111 rfl ?_
          refine ev_iconst (v := 1) d_Model_date_113 (by decide) ?_
          refine ev_iadd d_Model_date_114 ?_
          rw [nI_1]
          refine ev_aload_n d_Model_date_115 rfl rfl ?_
          refine mo_get (fa_Model_149 rfl rfl) d_Model_date_116 rfl ?_
          rw [hW1.1]
          refine mo_Vv [.int (nI (be + 1)), .int (nI W.length)] [.ref M] ca_Model_date_197 d_Model_date_119 rfl (Nat.le_of_ble_eq_true rfl) (c_Model_next hT hW1 hl (Nat.le_refl _) (by omega)) ?_
          have hnc := nxs (W := W) (c := 1502) hl hnb (by decide)
          generalize nx W (be + 1) W.length = w2' at hnc hp2 ⊢
          refine mo_put (fp_Model_265 rfl rfl) d_Model_date_122 (Nat.le_of_ble_eq_true rfl) rfl rfl rfl ?_
          rw [upd_upd]
          have hW2 : wOk W (upd I1 44 (nI w2')) R1 := wOk_I w1 rfl rfl
          have h442 : (upd I1 44 (nI w2')) 44 = nI w2' := by simp [upd]
          exact ev_as [(0, .ref M), (2, .long noD)] ⟨rfl, rfl, trivial⟩ (ev_to (z_date125 hT hW2 hl hb h442 (by omega) hp2) (fin 2 k2 _ (sm_upd (by decide))))
/-- date, over what the reference holds -/
theorem q_date (hT : (gl_t G)[0]? = some (cI, .int)) {I : Nat → Int32} {B T : List Int32} {F : Flds} {bd : Nat} {P : Pts} {gs : List Int32} {Q : List Prm} {hd ch : Option (List Int32)} (H : mI B T F bd P gs Q hd ch I R) (f : Int32) : ct_E G m_Model_date [.ref M, .int f] (mo_ov cI cZ h0 M I R) (cr (fun v h' => (sp_isField (nI F.length) f = 0 ∧ v = .long 0 ∧ h' = mo_ov cI cZ h0 M (upd I 0 1) R ∧ mI B T F bd P gs Q hd ch (upd I 0 1) R) ∨ ∃ (j : Nat) (q : List Int32 × List Int32) (I' : Nat → Int32) (R' : Nat → Nat → Int32), f = nI j ∧ F[j]? = some q ∧ v = .long (dvl q.2) ∧ h' = mo_ov cI cZ h0 M I' R' ∧ mI B T F bd P gs Q hd ch I' R' ∧ I' 0 = 0 ∧ I' 24 = I 24 ∧ I' 25 = I 25)) := by
  have hf := H.2.2.1
  refine ct_to (z_date hT hf.1 hf.2.1 hf.2.2.1 hf.2.2.2 f) ?_
  rintro o h' ⟨v, rfl, q⟩
  rcases q with ⟨q1, rfl, rfl⟩ | ⟨j, q, rfl, q2, rfl, I', R', rfl, q3, q4, q5⟩
  · exact ⟨_, rfl, Or.inl ⟨q1, rfl, rfl, mI_0 H⟩⟩
  · exact ⟨_, rfl, Or.inr ⟨j, q, I', R', rfl, q2, rfl, rfl, mI_sm H (sm_mono q4 (by decide)) q5, q3, q4 24 (by decide), q4 25 (by decide)⟩⟩
end DREF5
