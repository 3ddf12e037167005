section DCLS2
variable {G : gl_G} {cI : ClassId} {X : Nat}
theorem tx_some {N : Wds} {k : Nat} {w : Wd} (h : N[k]? = some w) : tx N k = w.2.2 := by unfold tx; rw [h]
theorem sgz_a {l : List Int32} : (l.take 3).drop 1 = (l.drop 1).take 2 := by rw [List.drop_take]
theorem sgz_b {l : List Int32} : (l.take 5).drop 3 = (l.drop 3).take 2 := by rw [List.drop_take]
theorem below_n {l : List Int32} {b : Nat} (hl : l.length ≤ 9) (hb : b < 2 ^ 30) : below (dgG l 0) (nI b) = true ↔ dgs l = true ∧ nmN l 0 < b := by
  rw [dgG_eq]
  by_cases q : dgs l = true
  · rw [if_pos q]
    have h1 := nm_lt l 0 q
    have h2 : 10 ^ l.length ≤ 10 ^ 9 := Nat.pow_le_pow_right (by decide) hl
    have h3 : nmN l 0 < 2 ^ 31 := by omega
    constructor
    · intro z
      have := of_decide_eq_true z
      exact ⟨q, (nI_ltI h3 (by omega)).mp this.2⟩
    · rintro ⟨-, z⟩
      exact decide_eq_true ⟨nI_pos' h3, nI_lt z (by omega)⟩
  · rw [if_neg q]
    constructor
    · intro z
      have := of_decide_eq_true z
      exact absurd this.1 (by decide)
    · intro z
      exact absurd z.1 q
theorem y_signedZone (hNm : gl_nm G) (hT : (gl_t G)[0]? = some (cI, .int)) {h : hp_T} {σ : rwT} (S : tS cI X h σ) {N : Wds} (H : dW σ N) {k : Nat} (hk : k < 2 ^ 30) (O : dK X h k) (h5 : (tx N k).length = 5) : ct_E G m_DateReader_signedZone [.ref (X + 39), .int (rg (tx N k) 0)] h (cv (.int (sgZ (tx N k))) h) := by
  obtain ⟨hA, r, hW⟩ := id O
  refine ct_of (ws' := tb_all) rfl rfl (Nat.le_of_ble_eq_true rfl) ?_
  refine ev_aload_n d_DateReader_signedZone_0 rfl rfl ?_
  refine ev_iconst (v := 1) d_DateReader_signedZone_1 (by decide) ?_
  refine ev_iconst (v := 3) d_DateReader_signedZone_2 (by decide) ?_
  refine ev_Vv (ci := 7) [.int (nI 1), .int (nI 3)] [] ca_DateReader_signedZone_78 d_DateReader_signedZone_3 rfl (hA) rfl (Nat.le_of_ble_eq_true rfl) (y_digits hNm hT S H hk O (show 1 ≤ 3 by decide) (by omega)) ?_
  refine ev_istore_n d_DateReader_signedZone_6 rfl (by decide) ?_
  refine ev_aload_n d_DateReader_signedZone_7 rfl rfl ?_
  refine ev_iconst (v := 3) d_DateReader_signedZone_8 (by decide) ?_
  refine ev_iconst (v := 5) d_DateReader_signedZone_9 (by decide) ?_
  refine ev_Vv (ci := 7) [.int (nI 3), .int (nI 5)] [] ca_DateReader_signedZone_78 d_DateReader_signedZone_10 rfl (hA) rfl (Nat.le_of_ble_eq_true rfl) (y_digits hNm hT S H hk O (show 3 ≤ 5 by decide) (by omega)) ?_
  rw [sgz_a, sgz_b]
  generalize tx N k = l at h5 ⊢
  have la : ((l.drop 1).take 2).length ≤ 9 := by rw [List.length_take]; omega
  have lb : ((l.drop 3).take 2).length ≤ 9 := by rw [List.length_take]; omega
  have ba := below_n (b := 24) la (by decide)
  have bb := below_n (b := 60) lb (by decide)
  have no : ¬ ((rg l 0 = 43 ∨ rg l 0 = 45) ∧ dgs ((l.drop 1).take 2) = true ∧ dgs ((l.drop 3).take 2) = true ∧ nmN ((l.drop 1).take 2) 0 < 24 ∧ nmN ((l.drop 3).take 2) 0 < 60) → ev_E G m_DateReader_signedZone 44 [(0, .ref (X + 39)), (1, .int (rg l 0)), (2, .int (dgG ((l.drop 1).take 2) 0)), (3, .int (dgG ((l.drop 3).take 2) 0))] [] h (cv (.int (sgZ l)) h) := by
    intro q
    refine ev_iconst (v := 0) d_DateReader_signedZone_44 (by decide) ?_
    refine ev_iret d_DateReader_signedZone_45 rfl ?_
    rw [show sgZ l = 0 from if_neg q]
    exact ⟨rfl, rfl⟩
  have a26 : (rg l 0 = 43 ∨ rg l 0 = 45) → ev_E G m_DateReader_signedZone 26 [(0, .ref (X + 39)), (1, .int (rg l 0)), (2, .int (dgG ((l.drop 1).take 2) 0)), (3, .int (dgG ((l.drop 3).take 2) 0))] [] h (cv (.int (sgZ l)) h) := by
    intro hs
    refine ev_iload_n d_DateReader_signedZone_26 rfl rfl ?_
    refine ev_bipush (v := 24) d_DateReader_signedZone_27 (by decide) ?_
    refine ev_Sv [.int (dgG ((l.drop 1).take 2) 0), .int (nI 24)] [] ca_DateReader_signedZone_48 d_DateReader_signedZone_29 rfl (Nat.le_of_ble_eq_true rfl) (y_isBelow (dgG ((l.drop 1).take 2) 0) (nI 24)) ?_
    cases q1 : below (dgG ((l.drop 1).take 2) 0) (nI 24) with
    | false =>
      refine ev_if_eq (tgt := 44) d_DateReader_signedZone_32 (by decide) (fun _ => ?_) (fun z => absurd rfl z)
      exact no (fun z => by rw [ba.mpr ⟨z.2.1, z.2.2.2.1⟩] at q1; cases q1)
    | true =>
      refine ev_if_eq (tgt := 44) d_DateReader_signedZone_32 (by decide) (fun z => absurd z (by decide)) (fun _ => ?_)
      refine ev_iload_n d_DateReader_signedZone_35 rfl rfl ?_
      refine ev_bipush (v := 60) d_DateReader_signedZone_36 (by decide) ?_
      refine ev_Sv [.int (dgG ((l.drop 3).take 2) 0), .int (nI 60)] [] ca_DateReader_signedZone_48 d_DateReader_signedZone_38 rfl (Nat.le_of_ble_eq_true rfl) (y_isBelow (dgG ((l.drop 3).take 2) 0) (nI 60)) ?_
      cases q2 : below (dgG ((l.drop 3).take 2) 0) (nI 60) with
      | false =>
        refine ev_if_ne (tgt := 46) d_DateReader_signedZone_41 (by decide) (fun z => absurd rfl z) (fun _ => ?_)
        exact no (fun z => by rw [bb.mpr ⟨z.2.2.1, z.2.2.2.2⟩] at q2; cases q2)
      | true =>
        refine ev_if_ne (tgt := 46) d_DateReader_signedZone_41 (by decide) (fun _ => ?_) (fun z => absurd z (by decide))
        obtain ⟨a1, a2⟩ := ba.mp q1
        obtain ⟨b1, b2⟩ := bb.mp q2
        rw [show sgZ l = _ from if_pos ⟨hs, a1, b1, a2, b2⟩, dgG_eq, dgG_eq, if_pos a1, if_pos b1]
        refine ev_bipush (v := 60) d_DateReader_signedZone_46 (by decide) ?_
        refine ev_bipush (v := 60) d_DateReader_signedZone_48 (by decide) ?_
        refine ev_iload_n d_DateReader_signedZone_50 rfl rfl ?_
        refine ev_imul d_DateReader_signedZone_51 ?_
        refine ev_iload_n d_DateReader_signedZone_52 rfl rfl ?_
        refine ev_iadd d_DateReader_signedZone_53 ?_
        refine ev_imul d_DateReader_signedZone_54 ?_
        refine ev_istore d_DateReader_signedZone_55 (by decide) ?_
        refine ev_iload_n d_DateReader_signedZone_57 rfl rfl ?_
        refine ev_bipush (v := 45) d_DateReader_signedZone_58 (by decide) ?_
        refine ev_icmp_ne (tgt := 69) d_DateReader_signedZone_60 (by decide) (fun c_60 => ?_) (fun c_60 => ?_)
        · refine ev_iload d_DateReader_signedZone_69 rfl ?_
          refine ev_iret d_DateReader_signedZone_71 rfl ?_
          rw [if_neg c_60]
          exact ⟨rfl, rfl⟩
        · refine ev_iload d_DateReader_signedZone_63 rfl ?_
          refine ev_ineg d_DateReader_signedZone_65 ?_
          refine ev_goto (tgt := 71) d_DateReader_signedZone_66 (by decide) ?_
          refine ev_iret d_DateReader_signedZone_71 rfl ?_
          rw [if_pos c_60]
          exact ⟨rfl, rfl⟩
  refine ev_istore_n d_DateReader_signedZone_13 rfl (by decide) ?_
  refine ev_iload_n d_DateReader_signedZone_14 rfl rfl ?_
  refine ev_bipush (v := 43) d_DateReader_signedZone_15 (by decide) ?_
  refine ev_icmp_eq (tgt := 26) d_DateReader_signedZone_17 (by decide) (fun c_17 => ?_) (fun c_17 => ?_)
  · exact a26 (Or.inl c_17)
  · refine ev_iload_n d_DateReader_signedZone_20 rfl rfl ?_
    refine ev_bipush (v := 45) d_DateReader_signedZone_21 (by decide) ?_
    refine ev_icmp_ne (tgt := 44) d_DateReader_signedZone_23 (by decide) (fun c_23 => ?_) (fun c_23 => ?_)
    · exact no (fun z => z.1.elim c_17 c_23)
    · exact a26 (Or.inr c_23)
theorem kdW_1 {N : Wds} (hN : ∀ w ∈ N, wfW w) (k : Nat) : kdW N k = 1 ↔ ∃ w, N[k]? = some w ∧ w.1 = 4 := by
  unfold kdW
  cases hq : N[k]? with
  | none => exact ⟨fun z => absurd z (by decide), fun ⟨w, z, _⟩ => by cases z⟩
  | some w =>
    have := cK_1 (hN w (List.mem_of_getElem? hq))
    exact ⟨fun z => ⟨w, rfl, this.mp z⟩, fun ⟨w2, z, z2⟩ => by cases z; exact this.mpr z2⟩
theorem kdW_s {N : Wds} (hN : ∀ w ∈ N, wfW w) (k : Nat) {c : Int32} (hc : ¬ c = 1 ∧ ¬ c = 2 ∧ ¬ c = 3 ∧ ¬ c = 4) (hm : ¬ c = -1) : kdW N k = c ↔ isC N[k]? c = true := by
  unfold kdW isC
  cases hq : N[k]? with
  | none => exact ⟨fun z => absurd z.symm hm, fun z => by cases z⟩
  | some w => exact cK_s (hN w (List.mem_of_getElem? hq)) hc
theorem zh_tab : ∀ j, j < 8 → (3600 : Int32) * zhL.getD j 0 = 3600 * zhL.getD j 0 := fun _ _ => rfl
theorem fst3_lt (l : List Int32) : ∀ (t : List Int32) (j : Nat), j + t.length < 2 ^ 30 → fst3 l t j = -1 ∨ ∃ i, j ≤ i ∧ 3 * i < 3 * j + t.length ∧ fst3 l t j = nI i
  | [], j, _ => Or.inl rfl
  | [_], j, _ => Or.inl rfl
  | [_, _], j, _ => Or.inl rfl
  | a :: b :: c :: t, j, h => by
    rw [fst3]
    simp only [List.length_cons] at h ⊢
    split
    · exact Or.inr ⟨j, Nat.le_refl _, by omega, rfl⟩
    · rcases fst3_lt l t (j + 1) (by omega) with q | ⟨i, h1, h2, h3⟩
      · exact Or.inl q
      · exact Or.inr ⟨i, by omega, by omega, h3⟩
theorem y_zoneSeconds (hNm : gl_nm G) (hT : (gl_t G)[0]? = some (cI, .int)) {tm tz sm sz : Nat} (hD : gDt G tm tz sm sz) {h : hp_T} {σ : rwT} (S : tS cI X h σ) {N : Wds} (H : dW σ N) {k : Nat} (hk : k < 2 ^ 30) (O : dK X h k) : ct_E G m_DateReader_zoneSeconds [.ref (X + 39)] h (cv (.int (zon N[k]?)) h) := by
  have m11 : (11 : Nat) ∈ txs := by decide
  have m16 : (16 : Nat) ∈ rws := by decide
  obtain ⟨⟨-, hZ⟩, -, hs1, hs2⟩ := id hD
  obtain ⟨hA, r, hW⟩ := id O
  have hl := tx_len H k
  refine ct_of (ws' := tb_all) rfl rfl (Nat.le_of_ble_eq_true rfl) ?_
  refine ev_aload_n d_DateReader_zoneSeconds_0 rfl rfl ?_
  refine ev_get (fa_DateReader_11 rfl rfl) d_DateReader_zoneSeconds_1 hA rfl ?_
  refine ev_Vv (ci := 4) [] [] ca_DateReader_zoneSeconds_69 d_DateReader_zoneSeconds_4 rfl (hW) rfl (Nat.le_of_ble_eq_true rfl) (w_wtexts hW) ?_
  refine ev_aload_n d_DateReader_zoneSeconds_7 rfl rfl ?_
  refine ev_get (fa_DateReader_17 rfl rfl) d_DateReader_zoneSeconds_8 hA rfl ?_
  refine ev_Vv (ci := 3) [.int (nI k)] [] ca_DateReader_zoneSeconds_73 d_DateReader_zoneSeconds_11 rfl ((S.2 11 m11)) rfl (Nat.le_of_ble_eq_true rfl) (w_sizeOf hT S m11 (nI k)) ?_
  rw [dW_s H hk]
  refine ev_istore_n d_DateReader_zoneSeconds_14 rfl (by decide) ?_
  refine ev_aload_n d_DateReader_zoneSeconds_15 rfl rfl ?_
  refine ev_get (fa_DateReader_11 rfl rfl) d_DateReader_zoneSeconds_16 hA rfl ?_
  refine ev_Vv (ci := 4) [] [] ca_DateReader_zoneSeconds_21 d_DateReader_zoneSeconds_19 rfl (hW) rfl (Nat.le_of_ble_eq_true rfl) (w_wkinds hW) ?_
  refine ev_aload_n d_DateReader_zoneSeconds_22 rfl rfl ?_
  refine ev_get (fa_DateReader_17 rfl rfl) d_DateReader_zoneSeconds_23 hA rfl ?_
  refine ev_Vv (ci := 1) [.int (nI k)] [] ca_DateReader_zoneSeconds_27 d_DateReader_zoneSeconds_26 rfl ((S.1.1 _ m16).1.1) rfl (Nat.le_of_ble_eq_true rfl) (w_get hT S.1 m16 (nI k)) ?_
  rw [dW_k H hk]
  refine ev_iconst (v := 1) d_DateReader_zoneSeconds_29 (by decide) ?_
  refine ev_icmp_eq (tgt := 35) d_DateReader_zoneSeconds_30 (by decide) (fun c_30 => ?_) (fun c_30 => ?_)
  · obtain ⟨w, hw, w4⟩ := (kdW_1 H.2.1 k).mp c_30
    have ex := tx_some hw
    rw [ex] at hl
    have es : szW N k = nI w.2.2.length := by unfold szW; rw [hw]
    rw [es, show zon N[k]? = (if w.2.2.length = 3 then zn3 w.2.2 else if w.2.2.length = 5 then sgZ w.2.2 else 0) from by rw [hw]; exact if_pos w4]
    refine ev_iload_n d_DateReader_zoneSeconds_35 rfl rfl ?_
    refine ev_iconst (v := 3) d_DateReader_zoneSeconds_36 (by decide) ?_
    refine ev_icmp_ne (tgt := 73) d_DateReader_zoneSeconds_37 (by decide) (fun c_37 => ?_) (fun c_37 => ?_)
    · have h3 : ¬ w.2.2.length = 3 := fun z => c_37 (by rw [z]; rfl)
      rw [if_neg h3]
      refine ev_iload_n d_DateReader_zoneSeconds_73 rfl rfl ?_
      refine ev_iconst (v := 5) d_DateReader_zoneSeconds_74 (by decide) ?_
      refine ev_icmp_ne (tgt := 100) d_DateReader_zoneSeconds_75 (by decide) (fun c_75 => ?_) (fun c_75 => ?_)
      · have h5 : ¬ w.2.2.length = 5 := fun z => c_75 (by rw [z]; rfl)
        rw [if_neg h5]
        refine ev_iconst (v := 0) d_DateReader_zoneSeconds_100 (by decide) ?_
        refine ev_iret d_DateReader_zoneSeconds_101 rfl ?_
        exact ⟨rfl, rfl⟩
      · have h5 : w.2.2.length = 5 := (nI_eq (by omega) (by decide)).mp c_75
        rw [if_pos h5]
        refine ev_aload_n d_DateReader_zoneSeconds_78 rfl rfl ?_
        refine ev_aload_n d_DateReader_zoneSeconds_79 rfl rfl ?_
        refine ev_get (fa_DateReader_11 rfl rfl) d_DateReader_zoneSeconds_80 hA rfl ?_
        refine ev_Vv (ci := 4) [] [.ref (X + 39)] ca_DateReader_zoneSeconds_69 d_DateReader_zoneSeconds_83 rfl (hW) rfl (Nat.le_of_ble_eq_true rfl) (w_wtexts hW) ?_
        refine ev_aload_n d_DateReader_zoneSeconds_86 rfl rfl ?_
        refine ev_get (fa_DateReader_17 rfl rfl) d_DateReader_zoneSeconds_87 hA rfl ?_
        refine ev_iconst (v := 0) d_DateReader_zoneSeconds_90 (by decide) ?_
        refine ev_Vv (ci := 3) [.int (nI k), .int 0] [.ref (X + 39)] ca_DateReader_zoneSeconds_87 d_DateReader_zoneSeconds_91 rfl ((S.2 11 m11)) rfl (Nat.le_of_ble_eq_true rfl) (w_byteOf hT S m11 (nI k) 0) ?_
        rw [dW_b H hk]
        refine ev_Vv (ci := 7) [.int (rg (tx N k) 0)] [] ca_DateReader_zoneSeconds_114 d_DateReader_zoneSeconds_94 rfl (hA) rfl (Nat.le_of_ble_eq_true rfl) (y_signedZone hNm hT S H hk O (by rw [ex]; exact h5)) ?_
        rw [ex]
        refine ev_goto (tgt := 101) d_DateReader_zoneSeconds_97 (by decide) ?_
        refine ev_iret d_DateReader_zoneSeconds_101 rfl ?_
        exact ⟨rfl, rfl⟩
    · have h3 : w.2.2.length = 3 := (nI_eq (by omega) (by decide)).mp c_37
      rw [if_pos h3]
      refine ev_aload_n d_DateReader_zoneSeconds_40 rfl rfl ?_
      refine ev_ldcS (tx := "estedtcstcdtmstmdtpstpdt") hs1 d_DateReader_zoneSeconds_41 ?_
      refine ev_Vv (ci := 7) [.ref sz] [] ca_DateReader_zoneSeconds_83 d_DateReader_zoneSeconds_43 rfl (hA) rfl (Nat.le_of_ble_eq_true rfl) (y_threeLetters hNm hT S H hk O hs2 (by decide)) ?_
      rw [ex]
      refine ev_istore_n d_DateReader_zoneSeconds_46 rfl (by decide) ?_
      refine ev_iload_n d_DateReader_zoneSeconds_47 rfl rfl ?_
      unfold zn3
      rcases fst3_lt w.2.2 znL 0 (by decide) with q | ⟨i, -, hi, q⟩
      · rw [q]
        refine ev_if_lt (tgt := 71) d_DateReader_zoneSeconds_48 (by decide) (fun _ => ?_) (fun z => absurd (by decide) z)
        refine ev_iconst (v := 0) d_DateReader_zoneSeconds_71 (by decide) ?_
        refine ev_iret d_DateReader_zoneSeconds_72 rfl ?_
        exact ⟨rfl, rfl⟩
      · have hi2 : i < zhL.length := by
          have : znL.length = 24 := rfl
          have : zhL.length = 8 := rfl
          omega
        have hi8 : i < 8 := hi2
        rw [q, if_neg (nI_pos (by omega)), nI_clamp (by omega)]
        refine ev_if_lt (tgt := 71) d_DateReader_zoneSeconds_48 (by decide) (fun z => absurd z (nI_pos (by omega))) (fun _ => ?_)
        refine ev_iload_n d_DateReader_zoneSeconds_51 rfl rfl ?_
        refine ev_gets hZ.1 (List.mem_cons_of_mem _ (tb_in 974 (by decide +kernel) rfl)) d_DateReader_zoneSeconds_52 ?_
        refine ev_blen hZ.2 d_DateReader_zoneSeconds_55 ?_
        refine ev_icmp_ge (tgt := 71) d_DateReader_zoneSeconds_56 (by decide) (fun z => absurd z (nI_ge hi2 (by decide))) (fun _ => ?_)
        refine ev_sipush (v := 3600) d_DateReader_zoneSeconds_59 (by decide) ?_
        refine ev_gets hZ.1 (List.mem_cons_of_mem _ (tb_in 974 (by decide +kernel) rfl)) d_DateReader_zoneSeconds_62 ?_
        refine ev_iload_n d_DateReader_zoneSeconds_65 rfl rfl ?_
        refine ev_biald hZ.2 (nI_in hi2 (by decide)) d_DateReader_zoneSeconds_66 ?_
        refine ev_imul d_DateReader_zoneSeconds_67 ?_
        refine ev_goto (tgt := 72) d_DateReader_zoneSeconds_68 (by decide) ?_
        refine ev_iret d_DateReader_zoneSeconds_72 rfl ?_
        rw [nI_clamp (by omega)]
        exact ⟨rfl, rfl⟩
  · refine ev_iconst (v := 0) d_DateReader_zoneSeconds_33 (by decide) ?_
    refine ev_iret d_DateReader_zoneSeconds_34 rfl ?_
    have e0 : zon N[k]? = 0 := by
      cases hq : N[k]? with
      | none => rfl
      | some w => exact if_neg (fun z => c_30 ((kdW_1 H.2.1 k).mpr ⟨w, hq, z⟩))
    rw [e0]
    exact ⟨rfl, rfl⟩
/-- the place has moved on -/
def dQ (X : Nat) (h : hp_T) (k : Nat) : hp_T → Prop := fun h' => h' = hp_up h (X + 39) (.inr (dtO X (nI k)))
theorem dQ_rf {h : hp_T} {k : Nat} (O : dK X h k) : dQ X h k h := (hp_up_same O.1).symm
theorem dQ_dtP {h h' : hp_T} {k : Nat} (q : dQ X h k h') : dtP X h h' := ⟨_, q⟩
theorem dQ_K {h h' : hp_T} {k k' : Nat} (O : dK X h k) (q : dQ X h k' h') : dK X h' k' := by
  obtain ⟨-, r, h2⟩ := O
  unfold dQ at q
  subst q
  exact ⟨hp_up_self _ _ _, r, by rw [hp_up_ne (by omega)]; exact h2⟩
theorem dK_O {h : hp_T} {k : Nat} (K : dK X h k) : dO X h := ⟨⟨_, K.1⟩, K.2⟩
/-- takes a number, or -1 -/
def tkP (X : Nat) (h : hp_T) (k : Nat) (o : Option Nat) : Option Value → hp_T → Prop := cr (fun y h' => y = .int (oN o) ∧ ∃ k', dQ X h k' h' ∧ k' ≤ k + 1 ∧ (∀ n, o = some n → k' = k + 1))
theorem y_takeNumber (hNm : gl_nm G) (hT : (gl_t G)[0]? = some (cI, .int)) {h : hp_T} {σ : rwT} (S : tS cI X h σ) {N : Wds} (H : dW σ N) {k : Nat} (hk : k < 2 ^ 29) (O : dK X h k) {a b : Nat} (ha : 1 ≤ a) (hb : b ≤ 9) (ha9 : a ≤ 9 := by decide) : ct_E G m_DateReader_takeNumber [.ref (X + 39), .int (nI a), .int (nI b)] h (tkP X h k (num a b N[k]?)) := by
  have m11 : (11 : Nat) ∈ txs := by decide
  have m16 : (16 : Nat) ∈ rws := by decide
  obtain ⟨hA, r, hW⟩ := id O
  have hl := tx_len H k
  have hk' : k < 2 ^ 30 := by omega
  refine ct_of (ws' := tb_all) rfl rfl (Nat.le_of_ble_eq_true rfl) ?_
  refine ev_aload_n d_DateReader_takeNumber_0 rfl rfl ?_
  refine ev_get (fa_DateReader_11 rfl rfl) d_DateReader_takeNumber_1 hA rfl ?_
  refine ev_Vv (ci := 4) [] [] ca_DateReader_takeNumber_69 d_DateReader_takeNumber_4 rfl (hW) rfl (Nat.le_of_ble_eq_true rfl) (w_wtexts hW) ?_
  refine ev_aload_n d_DateReader_takeNumber_7 rfl rfl ?_
  refine ev_get (fa_DateReader_17 rfl rfl) d_DateReader_takeNumber_8 hA rfl ?_
  refine ev_Vv (ci := 3) [.int (nI k)] [] ca_DateReader_takeNumber_73 d_DateReader_takeNumber_11 rfl ((S.2 11 m11)) rfl (Nat.le_of_ble_eq_true rfl) (w_sizeOf hT S m11 (nI k)) ?_
  rw [dW_s H hk']
  refine ev_istore_n d_DateReader_takeNumber_14 rfl (by decide) ?_
  refine ev_aload_n d_DateReader_takeNumber_15 rfl rfl ?_
  refine ev_get (fa_DateReader_11 rfl rfl) d_DateReader_takeNumber_16 hA rfl ?_
  refine ev_Vv (ci := 4) [] [] ca_DateReader_takeNumber_21 d_DateReader_takeNumber_19 rfl (hW) rfl (Nat.le_of_ble_eq_true rfl) (w_wkinds hW) ?_
  refine ev_aload_n d_DateReader_takeNumber_22 rfl rfl ?_
  refine ev_get (fa_DateReader_17 rfl rfl) d_DateReader_takeNumber_23 hA rfl ?_
  refine ev_Vv (ci := 1) [.int (nI k)] [] ca_DateReader_takeNumber_27 d_DateReader_takeNumber_26 rfl ((S.1.1 _ m16).1.1) rfl (Nat.le_of_ble_eq_true rfl) (w_get hT S.1 m16 (nI k)) ?_
  rw [dW_k H hk']
  have no : num a b N[k]? = none → ev_E G m_DateReader_takeNumber 43 [(0, .ref (X + 39)), (1, .int (nI a)), (2, .int (nI b)), (3, .int (szW N k))] [] h (tkP X h k (num a b N[k]?)) := by
    intro q
    refine ev_iconst (v := (-1)) d_DateReader_takeNumber_43 (by decide) ?_
    refine ev_iret d_DateReader_takeNumber_44 rfl ?_
    rw [q]
    exact ⟨_, rfl, rfl, k, dQ_rf O, by omega, fun n z => by cases z⟩
  refine ev_iconst (v := 1) d_DateReader_takeNumber_29 (by decide) ?_
  by_cases hq : ∃ w, N[k]? = some w ∧ w.1 = 4
  rotate_left
  · refine ev_icmp_ne (tgt := 43) d_DateReader_takeNumber_30 (by decide) (fun _ => ?_) (fun z => absurd ((kdW_1 H.2.1 k).mp z) hq)
    refine no ?_
    cases hw : N[k]? with
    | none => rfl
    | some w => exact if_neg (fun z => hq ⟨w, hw, z.1⟩)
  refine ev_icmp_ne (tgt := 43) d_DateReader_takeNumber_30 (by decide) (fun z => absurd ((kdW_1 H.2.1 k).mpr hq) z) (fun _ => ?_)
  obtain ⟨w, hw, w4⟩ := hq
  have ex := tx_some hw
  rw [ex] at hl
  have es : szW N k = nI w.2.2.length := by unfold szW; rw [hw]
  rw [es] at no ⊢
  refine ev_iload_n d_DateReader_takeNumber_33 rfl rfl ?_
  refine ev_iload_n d_DateReader_takeNumber_34 rfl rfl ?_
  by_cases h1 : a ≤ w.2.2.length
  rotate_left
  · refine ev_icmp_lt (tgt := 43) d_DateReader_takeNumber_35 (by decide) (fun _ => ?_) (fun z => absurd (nI_lt (Nat.lt_of_not_le h1) (by omega)) z)
    exact no (by rw [hw]; exact if_neg (fun z => h1 z.2.1))
  refine ev_icmp_lt (tgt := 43) d_DateReader_takeNumber_35 (by decide) (fun z => absurd z (nI_nlt h1 (by omega))) (fun _ => ?_)
  refine ev_iload_n d_DateReader_takeNumber_38 rfl rfl ?_
  refine ev_iload_n d_DateReader_takeNumber_39 rfl rfl ?_
  by_cases h2 : w.2.2.length ≤ b
  rotate_left
  · refine ev_icmp_le (tgt := 45) d_DateReader_takeNumber_40 (by decide) (fun z => absurd z (nI_ge (Nat.lt_of_not_le h2) (by omega))) (fun _ => ?_)
    exact no (by rw [hw]; exact if_neg (fun z => h2 z.2.2.1))
  refine ev_icmp_le (tgt := 45) d_DateReader_takeNumber_40 (by decide) (fun _ => ?_) (fun z => absurd (nI_le h2 (by omega)) z)
  refine ev_aload_n d_DateReader_takeNumber_45 rfl rfl ?_
  refine ev_iconst (v := 0) d_DateReader_takeNumber_46 (by decide) ?_
  refine ev_iload_n d_DateReader_takeNumber_47 rfl rfl ?_
  refine ev_Vv (ci := 7) [.int (nI 0), .int (nI w.2.2.length)] [] ca_DateReader_takeNumber_78 d_DateReader_takeNumber_48 rfl (hA) rfl (Nat.le_of_ble_eq_true rfl) (y_digits hNm hT S H hk' O (Nat.zero_le _) (by rw [ex]; exact Nat.le_refl _)) ?_
  rw [ex, List.drop_zero, List.take_length, dgG_eq]
  refine ev_istore d_DateReader_takeNumber_51 (by decide) ?_
  refine ev_aload_n d_DateReader_takeNumber_53 rfl rfl ?_
  refine ev_dup d_DateReader_takeNumber_54 rfl ?_
  refine ev_get (fa_DateReader_17 rfl rfl) d_DateReader_takeNumber_55 hA rfl ?_
  refine ev_iconst (v := 1) d_DateReader_takeNumber_58 (by decide) ?_
  refine ev_iadd d_DateReader_takeNumber_59 ?_
  refine ev_put (fp_DateReader_17 rfl rfl) d_DateReader_takeNumber_60 hA (Nat.le_of_ble_eq_true rfl) rfl rfl ?_
  refine ev_iload d_DateReader_takeNumber_63 rfl ?_
  refine ev_iret d_DateReader_takeNumber_65 rfl ?_
  have en : num a b N[k]? = if dgs w.2.2 = true then some (nmN w.2.2 0) else none := by
    rw [hw]
    by_cases q : dgs w.2.2 = true
    · rw [if_pos q]; exact if_pos ⟨w4, h1, h2, q⟩
    · rw [if_neg q]; exact if_neg (fun z => q z.2.2.2)
  rw [en]
  refine ⟨_, rfl, ?_, k + 1, ?_, Nat.le_refl _, fun _ _ => rfl⟩
  · split <;> rfl
  · show hp_up h (X + 39) (.inr (dtO X (nI k + 1))) = _
    rw [nI_1]
theorem y_takeMonth (hNm : gl_nm G) (hT : (gl_t G)[0]? = some (cI, .int)) {tm tz sm sz : Nat} (hD : gDt G tm tz sm sz) {h : hp_T} {σ : rwT} (S : tS cI X h σ) {N : Wds} (H : dW σ N) {k : Nat} (hk : k < 2 ^ 29) (O : dK X h k) : ct_E G m_DateReader_takeMonth [.ref (X + 39)] h (cr (fun y h' => y = .int (mon N[k]?) ∧ dQ X h (k + 1) h')) := by
  have m16 : (16 : Nat) ∈ rws := by decide
  obtain ⟨-, ⟨hs1, hs2⟩, -⟩ := id hD
  obtain ⟨hA, r, hW⟩ := id O
  refine ct_of (ws' := tb_all) rfl rfl (Nat.le_of_ble_eq_true rfl) ?_
  refine ev_aload_n d_DateReader_takeMonth_0 rfl rfl ?_
  refine ev_get (fa_DateReader_11 rfl rfl) d_DateReader_takeMonth_1 hA rfl ?_
  refine ev_Vv (ci := 4) [] [] ca_DateReader_takeMonth_21 d_DateReader_takeMonth_4 rfl (hW) rfl (Nat.le_of_ble_eq_true rfl) (w_wkinds hW) ?_
  refine ev_aload_n d_DateReader_takeMonth_7 rfl rfl ?_
  refine ev_get (fa_DateReader_17 rfl rfl) d_DateReader_takeMonth_8 hA rfl ?_
  refine ev_Vv (ci := 1) [.int (nI k)] [] ca_DateReader_takeMonth_27 d_DateReader_takeMonth_11 rfl ((S.1.1 _ m16).1.1) rfl (Nat.le_of_ble_eq_true rfl) (w_get hT S.1 m16 (nI k)) ?_
  rw [dW_k H (by omega)]
  have a28 : ev_E G m_DateReader_takeMonth 28 [(0, .ref (X + 39))] [.int (mon N[k]?)] h (cr (fun y h' => y = .int (mon N[k]?) ∧ dQ X h (k + 1) h')) := by
    generalize mon N[k]? = q
    refine ev_istore_n d_DateReader_takeMonth_28 rfl (by decide) ?_
    refine ev_aload_n d_DateReader_takeMonth_29 rfl rfl ?_
    refine ev_dup d_DateReader_takeMonth_30 rfl ?_
    refine ev_get (fa_DateReader_17 rfl rfl) d_DateReader_takeMonth_31 hA rfl ?_
    refine ev_iconst (v := 1) d_DateReader_takeMonth_34 (by decide) ?_
    refine ev_iadd d_DateReader_takeMonth_35 ?_
    refine ev_put (fp_DateReader_17 rfl rfl) d_DateReader_takeMonth_36 hA (Nat.le_of_ble_eq_true rfl) rfl rfl ?_
    refine ev_iload_n d_DateReader_takeMonth_39 rfl rfl ?_
    refine ev_iret d_DateReader_takeMonth_40 rfl ?_
    refine ⟨_, rfl, rfl, ?_⟩
    show hp_up h (X + 39) (.inr (dtO X (nI k + 1))) = _
    rw [nI_1]
  refine ev_iconst (v := 1) d_DateReader_takeMonth_14 (by decide) ?_
  refine ev_icmp_ne (tgt := 27) d_DateReader_takeMonth_15 (by decide) (fun c_15 => ?_) (fun c_15 => ?_)
  · refine ev_iconst (v := (-1)) d_DateReader_takeMonth_27 (by decide) ?_
    have e : mon N[k]? = -1 := by
      cases hw : N[k]? with
      | none => rfl
      | some w => exact if_neg (fun z => c_15 ((kdW_1 H.2.1 k).mpr ⟨w, hw, z⟩))
    rw [e] at a28 ⊢
    exact a28
  · obtain ⟨w, hw, w4⟩ := (kdW_1 H.2.1 k).mp c_15
    have ex := tx_some hw
    refine ev_aload_n d_DateReader_takeMonth_18 rfl rfl ?_
    refine ev_ldcS (tx := "janfebmaraprmayjunjulaugsepoctnovdec") hs1 d_DateReader_takeMonth_19 ?_
    refine ev_Vv (ci := 7) [.ref sm] [] ca_DateReader_takeMonth_83 d_DateReader_takeMonth_21 rfl (hA) rfl (Nat.le_of_ble_eq_true rfl) (y_threeLetters hNm hT S H (show k < 2 ^ 30 by omega) O hs2 (by decide)) ?_
    refine ev_goto (tgt := 28) d_DateReader_takeMonth_24 (by decide) ?_
    have e : mon N[k]? = fst3 (tx N k) moL 0 := by rw [hw, ex]; exact if_pos w4
    rw [← e]
    exact a28
theorem y_takeYear (hNm : gl_nm G) (hT : (gl_t G)[0]? = some (cI, .int)) {h : hp_T} {σ : rwT} (S : tS cI X h σ) {N : Wds} (H : dW σ N) {k : Nat} (hk : k < 2 ^ 29) (O : dK X h k) : ct_E G m_DateReader_takeYear [.ref (X + 39)] h (tkP X h k (yrs N[k]?)) := by
  have m11 : (11 : Nat) ∈ txs := by decide
  obtain ⟨hA, r, hW⟩ := id O
  have hl := tx_len H k
  refine ct_of (ws' := tb_all) rfl rfl (Nat.le_of_ble_eq_true rfl) ?_
  refine ev_aload_n d_DateReader_takeYear_0 rfl rfl ?_
  refine ev_get (fa_DateReader_11 rfl rfl) d_DateReader_takeYear_1 hA rfl ?_
  refine ev_Vv (ci := 4) [] [] ca_DateReader_takeYear_69 d_DateReader_takeYear_4 rfl (hW) rfl (Nat.le_of_ble_eq_true rfl) (w_wtexts hW) ?_
  refine ev_aload_n d_DateReader_takeYear_7 rfl rfl ?_
  refine ev_get (fa_DateReader_17 rfl rfl) d_DateReader_takeYear_8 hA rfl ?_
  refine ev_Vv (ci := 3) [.int (nI k)] [] ca_DateReader_takeYear_73 d_DateReader_takeYear_11 rfl ((S.2 11 m11)) rfl (Nat.le_of_ble_eq_true rfl) (w_sizeOf hT S m11 (nI k)) ?_
  rw [dW_s H (by omega)]
  refine ev_istore_n d_DateReader_takeYear_14 rfl (by decide) ?_
  refine ev_aload_n d_DateReader_takeYear_15 rfl rfl ?_
  refine ev_iconst (v := 2) d_DateReader_takeYear_16 (by decide) ?_
  refine ev_bipush (v := 9) d_DateReader_takeYear_17 (by decide) ?_
  refine ev_Vr (ci := 7) [.int (nI 2), .int (nI 9)] [] ca_DateReader_takeYear_33 d_DateReader_takeYear_19 rfl (hA) rfl (Nat.le_of_ble_eq_true rfl) (y_takeNumber hNm hT S H hk O (a := 2) (b := 9) (by decide) (by decide)) (fun v h1 z => ?_)
  obtain ⟨rfl, k', d1, d2, d3⟩ := z
  cases hn : num 2 9 N[k]? with
  | none =>
    have e : yrs N[k]? = none := by
      cases hw : N[k]? with
      | none => rfl
      | some w => rw [hw] at hn; unfold yrs; simp only; rw [hn]; rfl
    rw [e]
    refine ev_istore_n d_DateReader_takeYear_22 rfl (by decide) ?_
    refine ev_iload_n d_DateReader_takeYear_23 rfl rfl ?_
    refine ev_iconst (v := (-1)) d_DateReader_takeYear_24 (by decide) ?_
    refine ev_icmp_eq (tgt := 33) d_DateReader_takeYear_25 (by decide) (fun _ => ?_) (fun z => absurd rfl z)
    refine ev_iload_n d_DateReader_takeYear_33 rfl rfl ?_
    refine ev_iret d_DateReader_takeYear_34 rfl ?_
    exact ⟨_, rfl, rfl, k', d1, d2, fun n z => by cases z⟩
  | some x =>
    obtain ⟨w, hw, g1, g2, g3⟩ : ∃ w : Wd, N[k]? = some w ∧ 2 ≤ w.2.2.length ∧ w.2.2.length ≤ 9 ∧ x < 2 ^ 31 := by
      cases hw : N[k]? with
      | none => rw [hw] at hn; cases hn
      | some w =>
        rw [hw] at hn
        unfold num at hn
        simp only at hn
        split at hn
        · rename_i q
          have l1 := nm_lt w.2.2 0 q.2.2.2
          have l2 : 10 ^ w.2.2.length ≤ 10 ^ 9 := Nat.pow_le_pow_right (by decide) q.2.2.1
          cases hn
          exact ⟨w, rfl, q.2.1, q.2.2.1, by omega⟩
        · cases hn
    have es : szW N k = nI w.2.2.length := by unfold szW; rw [hw]
    have ey : yrs N[k]? = some (yrN w.2.2 x) := by rw [hw] at hn ⊢; unfold yrs; simp only; rw [hn]; rfl
    have hk1 := d3 x hn
    rw [ey, es]
    have fin : ∀ v : Int32, v = nI (yrN w.2.2 x) → tkP X h k (some (yrN w.2.2 x)) (some (.int v)) h1 := by
      rintro v rfl
      exact ⟨_, rfl, rfl, k', d1, d2, fun _ _ => hk1⟩
    show ev_E G m_DateReader_takeYear 22 _ [.int (nI x)] h1 _
    have a54 : nI 1900 + nI x = nI (yrN w.2.2 x) → ev_E G m_DateReader_takeYear 54 [(0, .ref (X + 39)), (1, .int (nI w.2.2.length)), (2, .int (nI x))] [] h1 (tkP X h k (some (yrN w.2.2 x))) := by
      intro q
      refine ev_sipush (v := 1900) d_DateReader_takeYear_54 (by decide) ?_
      refine ev_iload_n d_DateReader_takeYear_57 rfl rfl ?_
      refine ev_iadd d_DateReader_takeYear_58 ?_
      refine ev_iret d_DateReader_takeYear_59 rfl ?_
      exact fin _ q
    refine ev_istore_n d_DateReader_takeYear_22 rfl (by decide) ?_
    refine ev_iload_n d_DateReader_takeYear_23 rfl rfl ?_
    refine ev_iconst (v := (-1)) d_DateReader_takeYear_24 (by decide) ?_
    refine ev_icmp_eq (tgt := 33) d_DateReader_takeYear_25 (by decide) (fun z => absurd (show nI x < 0 by rw [show nI x = -1 from z]; decide) (nI_pos g3)) (fun _ => ?_)
    refine ev_iload_n d_DateReader_takeYear_28 rfl rfl ?_
    refine ev_iconst (v := 3) d_DateReader_takeYear_29 (by decide) ?_
    by_cases q3 : w.2.2.length ≤ 3
    · refine ev_icmp_le (tgt := 35) d_DateReader_takeYear_30 (by decide) (fun _ => ?_) (fun z => absurd (show nI w.2.2.length ≤ nI 3 from nI_le q3 (by decide)) z)
      refine ev_iload_n d_DateReader_takeYear_35 rfl rfl ?_
      refine ev_iconst (v := 2) d_DateReader_takeYear_36 (by decide) ?_
      by_cases q2 : w.2.2.length = 2
      · refine ev_icmp_ne (tgt := 54) d_DateReader_takeYear_37 (by decide) (fun z => absurd (show nI w.2.2.length = nI 2 by rw [q2]) z) (fun _ => ?_)
        refine ev_iload_n d_DateReader_takeYear_40 rfl rfl ?_
        refine ev_bipush (v := 50) d_DateReader_takeYear_41 (by decide) ?_
        by_cases q5 : x < 50
        · refine ev_icmp_ge (tgt := 54) d_DateReader_takeYear_43 (by decide) (fun z => absurd z (show ¬ nI 50 ≤ nI x from nI_ge q5 (by decide))) (fun _ => ?_)
          refine ev_sipush (v := 2000) d_DateReader_takeYear_46 (by decide) ?_
          refine ev_iload_n d_DateReader_takeYear_49 rfl rfl ?_
          refine ev_iadd d_DateReader_takeYear_50 ?_
          refine ev_goto (tgt := 59) d_DateReader_takeYear_51 (by decide) ?_
          refine ev_iret d_DateReader_takeYear_59 rfl ?_
          refine fin _ ?_
          rw [show yrN w.2.2 x = 2000 + x from (if_pos q2).trans (if_pos q5)]
          exact nI_add 2000 x
        · refine ev_icmp_ge (tgt := 54) d_DateReader_takeYear_43 (by decide) (fun _ => ?_) (fun z => absurd (show nI 50 ≤ nI x from nI_le (by omega) g3) z)
          refine a54 ?_
          rw [show yrN w.2.2 x = 1900 + x from (if_pos q2).trans (if_neg q5)]
          exact nI_add 1900 x
      · refine ev_icmp_ne (tgt := 54) d_DateReader_takeYear_37 (by decide) (fun _ => ?_) (fun z => absurd ((nI_eq (by omega) (by decide)).mp (show nI w.2.2.length = nI 2 from z)) q2)
        refine a54 ?_
        rw [show yrN w.2.2 x = 1900 + x from (if_neg q2).trans (if_pos (by omega))]
        exact nI_add 1900 x
    · refine ev_icmp_le (tgt := 35) d_DateReader_takeYear_30 (by decide) (fun z => absurd (show nI w.2.2.length ≤ nI 3 from z) (nI_ge (by omega) (by omega))) (fun _ => ?_)
      refine ev_iload_n d_DateReader_takeYear_33 rfl rfl ?_
      refine ev_iret d_DateReader_takeYear_34 rfl ?_
      refine fin _ ?_
      rw [show yrN w.2.2 x = x from (if_neg (by omega)).trans (if_neg (by omega))]
theorem y_dtakeColon (hT : (gl_t G)[0]? = some (cI, .int)) {h : hp_T} {σ : rwT} (S : tS cI X h σ) {N : Wds} (H : dW σ N) {k : Nat} (hk : k < 2 ^ 29) (O : dK X h k) : ct_E G m_DateReader_takeColon [.ref (X + 39)] h (cr (fun y h' => y = .int (bI (isC N[k]? 58)) ∧ dQ X h (if isC N[k]? 58 = true then k + 1 else k) h')) := by
  have m16 : (16 : Nat) ∈ rws := by decide
  obtain ⟨hA, r, hW⟩ := id O
  have ks := kdW_s H.2.1 k (c := 58) (by decide) (by decide)
  refine ct_of (ws' := tb_all) rfl rfl (Nat.le_of_ble_eq_true rfl) ?_
  refine ev_aload_n d_DateReader_takeColon_0 rfl rfl ?_
  refine ev_get (fa_DateReader_11 rfl rfl) d_DateReader_takeColon_1 hA rfl ?_
  refine ev_Vv (ci := 4) [] [] ca_DateReader_takeColon_21 d_DateReader_takeColon_4 rfl (hW) rfl (Nat.le_of_ble_eq_true rfl) (w_wkinds hW) ?_
  refine ev_aload_n d_DateReader_takeColon_7 rfl rfl ?_
  refine ev_get (fa_DateReader_17 rfl rfl) d_DateReader_takeColon_8 hA rfl ?_
  refine ev_Vv (ci := 1) [.int (nI k)] [] ca_DateReader_takeColon_27 d_DateReader_takeColon_11 rfl ((S.1.1 _ m16).1.1) rfl (Nat.le_of_ble_eq_true rfl) (w_get hT S.1 m16 (nI k)) ?_
  rw [dW_k H (by omega)]
  refine ev_bipush (v := 58) d_DateReader_takeColon_14 (by decide) ?_
  cases q : isC N[k]? 58 with
  | false =>
    refine ev_icmp_ne (tgt := 23) d_DateReader_takeColon_16 (by decide) (fun _ => ?_) (fun z => by rw [ks.mp z] at q; cases q)
    refine ev_iconst (v := 0) d_DateReader_takeColon_23 (by decide) ?_
    refine ev_istore_n d_DateReader_takeColon_24 rfl (by decide) ?_
    refine ev_iload_n d_DateReader_takeColon_25 rfl rfl ?_
    refine ev_if_eq (tgt := 39) d_DateReader_takeColon_26 (by decide) (fun _ => ?_) (fun z => absurd rfl z)
    refine ev_iload_n d_DateReader_takeColon_39 rfl rfl ?_
    refine ev_zret d_DateReader_takeColon_40 rfl rfl ?_
    exact ⟨_, rfl, rfl, dQ_rf O⟩
  | true =>
    refine ev_icmp_ne (tgt := 23) d_DateReader_takeColon_16 (by decide) (fun z => absurd (ks.mpr q) z) (fun _ => ?_)
    refine ev_iconst (v := 1) d_DateReader_takeColon_19 (by decide) ?_
    refine ev_goto (tgt := 24) d_DateReader_takeColon_20 (by decide) ?_
    refine ev_istore_n d_DateReader_takeColon_24 rfl (by decide) ?_
    refine ev_iload_n d_DateReader_takeColon_25 rfl rfl ?_
    refine ev_if_eq (tgt := 39) d_DateReader_takeColon_26 (by decide) (fun z => absurd z (by decide)) (fun _ => ?_)
    refine ev_aload_n d_DateReader_takeColon_29 rfl rfl ?_
    refine ev_dup d_DateReader_takeColon_30 rfl ?_
    refine ev_get (fa_DateReader_17 rfl rfl) d_DateReader_takeColon_31 hA rfl ?_
    refine ev_iconst (v := 1) d_DateReader_takeColon_34 (by decide) ?_
    refine ev_iadd d_DateReader_takeColon_35 ?_
    refine ev_put (fp_DateReader_17 rfl rfl) d_DateReader_takeColon_36 hA (Nat.le_of_ble_eq_true rfl) rfl rfl ?_
    refine ev_iload_n d_DateReader_takeColon_39 rfl rfl ?_
    refine ev_zret d_DateReader_takeColon_40 rfl rfl ?_
    refine ⟨_, rfl, rfl, ?_⟩
    show hp_up h (X + 39) (.inr (dtO X (nI k + 1))) = _
    rw [nI_1]
    rfl
end DCLS2
