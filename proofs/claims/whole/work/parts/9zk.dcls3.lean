section DCLS3
variable {G : gl_G} {cI cJ : ClassId} {X : Nat}
theorem day_mo {y m d : Int32} (h : dayOk y m d = true) : ∃ j, j < 12 ∧ m = nI j := by
  obtain ⟨-, -, h1, h2⟩ := of_decide_eq_true h
  by_cases q : m < 0 ∨ 12 ≤ m
  · rw [show dOf y m = 0 from if_pos q] at h2
    exact absurd (Int32.le_trans h1 h2) (by decide)
  · obtain ⟨j, hj, rfl⟩ := nI_of (fun z => q (Or.inl z))
    refine ⟨j, ?_, rfl⟩
    rcases Nat.lt_or_ge j 12 with z | z
    · exact z
    · exact absurd (Or.inr (show nI 12 ≤ nI j from nI_le z hj)) q
/-- wherever the places went, the answer is that of places one behind the other -/
theorem dt_end {N : Wds} {k0 k1 k3 k4 k5 k6 : Nat} {se z : Int32} (e1 : ∀ n, num 1 2 N[k0]? = some n → k1 = k0 + 1) (e3 : ∀ n, yrs N[k1 + 1]? = some n → k3 = k1 + 1 + 1) (e4 : ∀ n, num 2 2 N[k3]? = some n → k4 = k3 + 1) (hk5 : k5 = if isC N[k4]? 58 = true then k4 + 1 else k4) (e6 : ∀ n, num 2 2 N[k5]? = some n → k6 = k5 + 1) (hz : k6 = k0 + 6 → se = (if isC N[k0 + 6]? 58 = true then oN (num 2 2 N[k0 + 7]?) else 0) ∧ (se = -1 ∨ z = zon (if isC N[k0 + 6]? 58 = true then N[k0 + 8]? else N[k0 + 6]?))) : dRs (oN (num 1 2 N[k0]?)) (mon N[k1]?) (oN (yrs N[k1 + 1]?)) (oN (num 2 2 N[k3]?)) (isC N[k4]? 58) (oN (num 2 2 N[k5]?)) se z = dtK N k0 := by
  unfold dtK
  cases h1 : num 1 2 N[k0]? with
  | none => exact dRs_d.trans dRs_d.symm
  | some n1 =>
    obtain rfl := e1 n1 h1
    cases h3 : yrs N[k0 + 1 + 1]? with
    | none =>
      try rw [show k0 + 2 = k0 + 1 + 1 from rfl, h3]
      exact dRs_y.trans dRs_y.symm
    | some n3 =>
      obtain rfl := e3 n3 h3
      try rw [show k0 + 2 = k0 + 1 + 1 from rfl, h3]
      cases h4 : num 2 2 N[k0 + 1 + 1 + 1]? with
      | none =>
        try rw [show k0 + 3 = k0 + 1 + 1 + 1 from rfl, h4]
        exact dRs_h.trans dRs_h.symm
      | some n4 =>
        obtain rfl := e4 n4 h4
        try rw [show k0 + 3 = k0 + 1 + 1 + 1 from rfl, h4]
        cases h5 : isC N[k0 + 1 + 1 + 1 + 1]? 58 with
        | false =>
          try rw [show k0 + 4 = k0 + 1 + 1 + 1 + 1 from rfl, h5]
          exact dRs_p.trans dRs_p.symm
        | true =>
          rw [h5, if_pos rfl] at hk5
          subst hk5
          try rw [show k0 + 4 = k0 + 1 + 1 + 1 + 1 from rfl, h5]
          cases h6 : num 2 2 N[k0 + 1 + 1 + 1 + 1 + 1]? with
          | none =>
            try rw [show k0 + 5 = k0 + 1 + 1 + 1 + 1 + 1 from rfl, h6]
            exact dRs_m.trans dRs_m.symm
          | some n6 =>
            try rw [show k0 + 5 = k0 + 1 + 1 + 1 + 1 + 1 from rfl, h6]
            obtain ⟨z1, z2⟩ := hz (e6 n6 h6)
            rw [← z1]
            rcases z2 with z2 | z2
            · rw [z2]; exact dRs_s.trans dRs_s.symm
            · rw [z2]
theorem y_seconds (hNm : gl_nm G) (hT : (gl_t G)[0]? = some (cI, .int)) {tm tz sm sz : Nat} (hD : gDt G tm tz sm sz) {h : hp_T} {σ : rwT} (S : tS cI X h σ) {N : Wds} (H : dW σ N) (O : dO X h) : ct_E G m_DateReader_seconds [.ref (X + 39)] h (cr (fun y h' => y = .long (dtK N (wkd N)) ∧ dtP X h h')) := by
  have m16 : (16 : Nat) ∈ rws := by decide
  obtain ⟨⟨p0, hA⟩, r, hW⟩ := id O
  have a47 : ∀ (w : Int32) (k0 : Nat), k0 ≤ 2 → ev_E G m_DateReader_seconds 47 [(0, .ref (X + 39)), (1, .int w)] [.int (nI k0), .ref (X + 39)] h (cr (fun y h' => y = .long (dtK N k0) ∧ dtP X h h')) := by
    intro w k0 hk0
    refine ev_put (fp_DateReader_17 rfl rfl) d_DateReader_seconds_47 hA (Nat.le_of_ble_eq_true rfl) rfl rfl ?_
    have d0 : dtP X h (hp_up h (X + 39) (.inr (dtO X (nI k0)))) := ⟨_, rfl⟩
    have K0 : dK X (hp_up h (X + 39) (.inr (dtO X (nI k0)))) k0 := ⟨hp_up_self _ _ _, r, by rw [hp_up_ne (by omega)]; exact hW⟩
    show ev_E G m_DateReader_seconds 50 _ _ (hp_up h (X + 39) (.inr (dtO X (nI k0)))) _
    generalize hp_up h (X + 39) (.inr (dtO X (nI k0))) = h0 at d0 K0 ⊢
    have S0 := dS_go S O d0
    refine ev_aload_n d_DateReader_seconds_50 rfl rfl ?_
    refine ev_iconst (v := 1) d_DateReader_seconds_51 (by decide) ?_
    refine ev_iconst (v := 2) d_DateReader_seconds_52 (by decide) ?_
    refine ev_Vr (ci := 7) [.int (nI 1), .int (nI 2)] [] ca_DateReader_seconds_33 d_DateReader_seconds_53 rfl (K0.1) rfl (Nat.le_of_ble_eq_true rfl) (y_takeNumber hNm hT S0 H (by omega) K0 (a := 1) (b := 2) (by decide) (by decide)) (fun v h1 z => ?_)
    obtain ⟨rfl, k1, q1, l1, e1⟩ := z
    have K1 := dQ_K K0 q1
    have S1 := dS_go S0 (dK_O K0) (dQ_dtP q1)
    have d1 := dtP_tr d0 (dQ_dtP q1)
    refine ev_istore_n d_DateReader_seconds_56 rfl (by decide) ?_
    refine ev_aload_n d_DateReader_seconds_57 rfl rfl ?_
    refine ev_Vr (ci := 7) [] [] ca_DateReader_seconds_37 d_DateReader_seconds_58 rfl (K1.1) rfl (Nat.le_of_ble_eq_true rfl) (y_takeMonth hNm hT hD S1 H (by omega) K1) (fun v h1 z => ?_)
    obtain ⟨rfl, q2⟩ := z
    have K2 := dQ_K K1 q2
    have S2 := dS_go S1 (dK_O K1) (dQ_dtP q2)
    have d2 := dtP_tr d1 (dQ_dtP q2)
    refine ev_istore_n d_DateReader_seconds_61 rfl (by decide) ?_
    refine ev_aload_n d_DateReader_seconds_62 rfl rfl ?_
    refine ev_Vr (ci := 7) [] [] ca_DateReader_seconds_41 d_DateReader_seconds_63 rfl (K2.1) rfl (Nat.le_of_ble_eq_true rfl) (y_takeYear hNm hT S2 H (by omega) K2) (fun v h1 z => ?_)
    obtain ⟨rfl, k3, q3, l3, e3⟩ := z
    have K3 := dQ_K K2 q3
    have S3 := dS_go S2 (dK_O K2) (dQ_dtP q3)
    have d3 := dtP_tr d2 (dQ_dtP q3)
    refine ev_istore d_DateReader_seconds_66 (by decide) ?_
    refine ev_aload_n d_DateReader_seconds_68 rfl rfl ?_
    refine ev_iconst (v := 2) d_DateReader_seconds_69 (by decide) ?_
    refine ev_iconst (v := 2) d_DateReader_seconds_70 (by decide) ?_
    refine ev_Vr (ci := 7) [.int (nI 2), .int (nI 2)] [] ca_DateReader_seconds_33 d_DateReader_seconds_71 rfl (K3.1) rfl (Nat.le_of_ble_eq_true rfl) (y_takeNumber hNm hT S3 H (by omega) K3 (a := 2) (b := 2) (by decide) (by decide)) (fun v h1 z => ?_)
    obtain ⟨rfl, k4, q4, l4, e4⟩ := z
    have K4 := dQ_K K3 q4
    have S4 := dS_go S3 (dK_O K3) (dQ_dtP q4)
    have d4 := dtP_tr d3 (dQ_dtP q4)
    refine ev_istore d_DateReader_seconds_74 (by decide) ?_
    refine ev_aload_n d_DateReader_seconds_76 rfl rfl ?_
    refine ev_Vr (ci := 7) [] [] ca_DateReader_seconds_44 d_DateReader_seconds_77 rfl (K4.1) rfl (Nat.le_of_ble_eq_true rfl) (y_dtakeColon hT S4 H (by omega) K4) (fun v h1 z => ?_)
    obtain ⟨rfl, q5⟩ := z
    obtain ⟨k5, hk5⟩ : ∃ k5, k5 = if isC N[k4]? 58 = true then k4 + 1 else k4 := ⟨_, rfl⟩
    rw [← hk5] at q5
    have l5 : k5 ≤ k4 + 1 := by rw [hk5]; split <;> omega
    have K5 := dQ_K K4 q5
    have S5 := dS_go S4 (dK_O K4) (dQ_dtP q5)
    have d5 := dtP_tr d4 (dQ_dtP q5)
    refine ev_istore d_DateReader_seconds_80 (by decide) ?_
    refine ev_aload_n d_DateReader_seconds_82 rfl rfl ?_
    refine ev_iconst (v := 2) d_DateReader_seconds_83 (by decide) ?_
    refine ev_iconst (v := 2) d_DateReader_seconds_84 (by decide) ?_
    refine ev_Vr (ci := 7) [.int (nI 2), .int (nI 2)] [] ca_DateReader_seconds_33 d_DateReader_seconds_85 rfl (K5.1) rfl (Nat.le_of_ble_eq_true rfl) (y_takeNumber hNm hT S5 H (by omega) K5 (a := 2) (b := 2) (by decide) (by decide)) (fun v h1 z => ?_)
    obtain ⟨rfl, k6, q6, l6, e6⟩ := z
    have K6 := dQ_K K5 q6
    have S6 := dS_go S5 (dK_O K5) (dQ_dtP q6)
    have d6 := dtP_tr d5 (dQ_dtP q6)
    refine ev_istore d_DateReader_seconds_88 (by decide) ?_
    refine ev_aload_n d_DateReader_seconds_90 rfl rfl ?_
    refine ev_Vr (ci := 7) [] [] ca_DateReader_seconds_44 d_DateReader_seconds_91 rfl (K6.1) rfl (Nat.le_of_ble_eq_true rfl) (y_dtakeColon hT S6 H (by omega) K6) (fun v h1 z => ?_)
    obtain ⟨rfl, q7⟩ := z
    have K7 := dQ_K K6 q7
    have S7 := dS_go S6 (dK_O K6) (dQ_dtP q7)
    have d7 := dtP_tr d6 (dQ_dtP q7)
    have all := fun se z => dt_end (N := N) (k0 := k0) (k6 := k6) (se := se) (z := z) e1 e3 e4 hk5 e6
    generalize oN (num 1 2 N[k0]?) = dy at all ⊢
    generalize mon N[k1]? = mo at all ⊢
    generalize oN (yrs N[k1 + 1]?) = yr at all ⊢
    generalize oN (num 2 2 N[k3]?) = hr at all ⊢
    generalize isC N[k4]? 58 = pa at all ⊢
    generalize oN (num 2 2 N[k5]?) = mi at all ⊢
    have a107 : ∀ (se : Int32) (h8 : hp_T) (k8 : Nat), k8 < 2 ^ 29 → tS cI X h8 σ → dK X h8 k8 → dtP X h h8 → dRs dy mo yr hr pa mi se (zon N[k8]?) = dtK N k0 → ev_E G m_DateReader_seconds 107 [(0, .ref (X + 39)), (1, .int w), (2, .int dy), (3, .int mo), (4, .int yr), (5, .int hr), (6, .int (bI pa)), (7, .int mi)] [.int se] h8 (cr (fun y h' => y = .long (dtK N k0) ∧ dtP X h h')) := by
      intro se h8 k8 l8 S8 K8 d8 V
      rw [← V]
      have no : ¬ (pa = true ∧ below hr 24 = true ∧ below mi 60 = true ∧ below se 61 = true ∧ dayOk yr mo dy = true) → ∀ ti : Int32, ev_E G m_DateReader_seconds 166 [(0, .ref (X + 39)), (1, .int w), (2, .int dy), (3, .int mo), (4, .int yr), (5, .int hr), (6, .int (bI pa)), (7, .int mi), (8, .int se), (9, .int ti)] [] h8 (cr (fun y h' => y = .long (dRs dy mo yr hr pa mi se (zon N[k8]?)) ∧ dtP X h h')) := by
        intro q ti
        refine ev_ldc2 (v := (-9223372036854775808)) (List.mem_cons_of_mem _ tw_868) d_DateReader_seconds_166 ?_
        refine ev_lret d_DateReader_seconds_169 rfl ?_
        exact ⟨_, rfl, by rw [show dRs dy mo yr hr pa mi se (zon N[k8]?) = noD from if_neg q]; rfl, d8⟩
      have n148 : ¬ (pa = true ∧ below hr 24 = true ∧ below mi 60 = true ∧ below se 61 = true ∧ dayOk yr mo dy = true) → ev_E G m_DateReader_seconds 148 [(0, .ref (X + 39)), (1, .int w), (2, .int dy), (3, .int mo), (4, .int yr), (5, .int hr), (6, .int (bI pa)), (7, .int mi), (8, .int se)] [] h8 (cr (fun y h' => y = .long (dRs dy mo yr hr pa mi se (zon N[k8]?)) ∧ dtP X h h')) := by
        intro q
        refine ev_iconst (v := 0) d_DateReader_seconds_148 (by decide) ?_
        refine ev_istore d_DateReader_seconds_149 (by decide) ?_
        refine ev_iload d_DateReader_seconds_151 rfl ?_
        refine ev_if_eq (tgt := 166) d_DateReader_seconds_153 (by decide) (fun _ => no q 0) (fun z => absurd rfl z)
      refine ev_istore d_DateReader_seconds_107 (by decide) ?_
      refine ev_iload d_DateReader_seconds_109 rfl ?_
      cases pa with
      | false =>
        refine ev_if_eq (tgt := 148) d_DateReader_seconds_111 (by decide) (fun _ => ?_) (fun z => absurd rfl z)
        exact n148 (fun z => by cases z.1)
      | true =>
        refine ev_if_eq (tgt := 148) d_DateReader_seconds_111 (by decide) (fun z => absurd z (by decide)) (fun _ => ?_)
        refine ev_iload d_DateReader_seconds_114 rfl ?_
        refine ev_bipush (v := 24) d_DateReader_seconds_116 (by decide) ?_
        refine ev_Sv [.int hr, .int 24] [] ca_DateReader_seconds_48 d_DateReader_seconds_118 rfl (Nat.le_of_ble_eq_true rfl) (y_isBelow hr 24) ?_
        cases t2 : below hr 24 with
        | false =>
          refine ev_if_eq (tgt := 148) d_DateReader_seconds_121 (by decide) (fun _ => ?_) (fun z => absurd rfl z)
          exact n148 (fun z => by rw [t2] at z; cases z.2.1)
        | true =>
          refine ev_if_eq (tgt := 148) d_DateReader_seconds_121 (by decide) (fun z => absurd z (by decide)) (fun _ => ?_)
          refine ev_iload d_DateReader_seconds_124 rfl ?_
          refine ev_bipush (v := 60) d_DateReader_seconds_126 (by decide) ?_
          refine ev_Sv [.int mi, .int 60] [] ca_DateReader_seconds_48 d_DateReader_seconds_128 rfl (Nat.le_of_ble_eq_true rfl) (y_isBelow mi 60) ?_
          cases t3 : below mi 60 with
          | false =>
            refine ev_if_eq (tgt := 148) d_DateReader_seconds_131 (by decide) (fun _ => ?_) (fun z => absurd rfl z)
            exact n148 (fun z => by rw [t3] at z; cases z.2.2.1)
          | true =>
            refine ev_if_eq (tgt := 148) d_DateReader_seconds_131 (by decide) (fun z => absurd z (by decide)) (fun _ => ?_)
            refine ev_iload d_DateReader_seconds_134 rfl ?_
            refine ev_bipush (v := 61) d_DateReader_seconds_136 (by decide) ?_
            refine ev_Sv [.int se, .int 61] [] ca_DateReader_seconds_48 d_DateReader_seconds_138 rfl (Nat.le_of_ble_eq_true rfl) (y_isBelow se 61) ?_
            cases t4 : below se 61 with
            | false =>
              refine ev_if_eq (tgt := 148) d_DateReader_seconds_141 (by decide) (fun _ => ?_) (fun z => absurd rfl z)
              exact n148 (fun z => by rw [t4] at z; cases z.2.2.2.1)
            | true =>
              refine ev_if_eq (tgt := 148) d_DateReader_seconds_141 (by decide) (fun z => absurd z (by decide)) (fun _ => ?_)
              refine ev_iconst (v := 1) d_DateReader_seconds_144 (by decide) ?_
              refine ev_goto (tgt := 149) d_DateReader_seconds_145 (by decide) ?_
              refine ev_istore d_DateReader_seconds_149 (by decide) ?_
              refine ev_iload d_DateReader_seconds_151 rfl ?_
              refine ev_if_eq (tgt := 166) d_DateReader_seconds_153 (by decide) (fun z => absurd z (by decide)) (fun _ => ?_)
              refine ev_iload d_DateReader_seconds_156 rfl ?_
              refine ev_iload_n d_DateReader_seconds_158 rfl rfl ?_
              refine ev_iload_n d_DateReader_seconds_159 rfl rfl ?_
              refine ev_Sv [.int yr, .int mo, .int dy] [] ca_DateReader_seconds_52 d_DateReader_seconds_160 rfl (Nat.le_of_ble_eq_true rfl) (y_isDay hD yr mo dy) ?_
              cases t5 : dayOk yr mo dy with
              | false =>
                refine ev_if_ne (tgt := 170) d_DateReader_seconds_163 (by decide) (fun z => absurd rfl z) (fun _ => ?_)
                exact no (fun z => by rw [t5] at z; cases z.2.2.2.2) 1
              | true =>
                refine ev_if_ne (tgt := 170) d_DateReader_seconds_163 (by decide) (fun _ => ?_) (fun z => absurd z (by decide))
                rw [show dRs dy mo yr hr true mi se (zon N[k8]?) = _ from if_pos ⟨rfl, t2, t3, t4, t5⟩]
                obtain ⟨j, hj, rfl⟩ := day_mo t5
                rw [nI_clamp (show j < 2 ^ 31 by omega)]
                refine ev_ldc2 (v := 24) (List.mem_cons_of_mem _ tw_869) d_DateReader_seconds_170 ?_
                refine ev_iload d_DateReader_seconds_173 rfl ?_
                refine ev_iload_n d_DateReader_seconds_175 rfl rfl ?_
                refine ev_iload_n d_DateReader_seconds_176 rfl rfl ?_
                refine ev_Sv [.int yr, .int (nI j), .int dy] [.long 24] ca_DateReader_seconds_60 d_DateReader_seconds_177 rfl (Nat.le_of_ble_eq_true rfl) (y_since hD yr dy (show j ≤ 12 by omega)) ?_
                refine ev_i2l d_DateReader_seconds_180 ?_
                refine ev_lmul d_DateReader_seconds_181 ?_
                refine ev_iload d_DateReader_seconds_182 rfl ?_
                refine ev_i2l d_DateReader_seconds_184 ?_
                refine ev_ladd d_DateReader_seconds_185 ?_
                refine ev_lstore d_DateReader_seconds_186 (by decide) ?_
                refine ev_ldc2 (v := 60) (List.mem_cons_of_mem _ tw_876) d_DateReader_seconds_188 ?_
                refine ev_ldc2 (v := 60) (List.mem_cons_of_mem _ tw_876) d_DateReader_seconds_191 ?_
                refine ev_lload d_DateReader_seconds_194 rfl ?_
                refine ev_lmul d_DateReader_seconds_196 ?_
                refine ev_iload d_DateReader_seconds_197 rfl ?_
                refine ev_i2l d_DateReader_seconds_199 ?_
                refine ev_ladd d_DateReader_seconds_200 ?_
                refine ev_lmul d_DateReader_seconds_201 ?_
                refine ev_iload d_DateReader_seconds_202 rfl ?_
                refine ev_i2l d_DateReader_seconds_204 ?_
                refine ev_ladd d_DateReader_seconds_205 ?_
                refine ev_aload_n d_DateReader_seconds_206 rfl rfl ?_
                refine ev_Vv (ci := 7) [] [.long _] ca_DateReader_seconds_66 d_DateReader_seconds_207 rfl (K8.1) rfl (Nat.le_of_ble_eq_true rfl) (y_zoneSeconds hNm hT hD S8 H (show k8 < 2 ^ 30 by omega) K8) ?_
                refine ev_i2l d_DateReader_seconds_210 ?_
                refine ev_lsub d_DateReader_seconds_211 ?_
                refine ev_lret d_DateReader_seconds_212 rfl ?_
                exact ⟨_, rfl, rfl, d8⟩
    cases c6 : isC N[k6]? 58 with
    | false =>
      rw [c6, if_neg (by decide)] at K7
      refine ev_if_eq (tgt := 106) d_DateReader_seconds_94 (by decide) (fun _ => ?_) (fun z => absurd rfl z)
      refine ev_iconst (v := 0) d_DateReader_seconds_106 (by decide) ?_
      refine a107 0 _ k6 (by omega) S7 K7 d7 (all 0 _ (fun z => ?_))
      subst z
      rw [c6]
      exact ⟨rfl, Or.inr rfl⟩
    | true =>
      rw [c6, if_pos rfl] at K7
      refine ev_if_eq (tgt := 106) d_DateReader_seconds_94 (by decide) (fun z => absurd z (by decide)) (fun _ => ?_)
      refine ev_aload_n d_DateReader_seconds_97 rfl rfl ?_
      refine ev_iconst (v := 2) d_DateReader_seconds_98 (by decide) ?_
      refine ev_iconst (v := 2) d_DateReader_seconds_99 (by decide) ?_
      refine ev_Vr (ci := 7) [.int (nI 2), .int (nI 2)] [] ca_DateReader_seconds_33 d_DateReader_seconds_100 rfl (K7.1) rfl (Nat.le_of_ble_eq_true rfl) (y_takeNumber hNm hT S7 H (by omega) K7 (a := 2) (b := 2) (by decide) (by decide)) (fun v h1 z => ?_)
      obtain ⟨rfl, k8, q8, l8, e8⟩ := z
      refine ev_goto (tgt := 107) d_DateReader_seconds_103 (by decide) ?_
      refine a107 _ _ k8 (by omega) (dS_go S7 (dK_O K7) (dQ_dtP q8)) (dQ_K K7 q8) (dtP_tr d7 (dQ_dtP q8)) (all _ _ (fun z => ?_))
      subst z
      rw [c6, if_pos rfl, if_pos rfl]
      refine ⟨rfl, ?_⟩
      cases h8 : num 2 2 N[k0 + 6 + 1]? with
      | none => exact Or.inl rfl
      | some n8 => exact Or.inr (by rw [e8 n8 h8])
  have ka := (kdW_1 H.2.1 0).trans (isA_1 N[0]?).symm
  have kb := kdW_s H.2.1 1 (c := 44) (by decide) (by decide)
  have n35 : wkd N = 0 → ev_E G m_DateReader_seconds 35 [(0, .ref (X + 39))] [] h (cr (fun y h' => y = .long (dtK N (wkd N)) ∧ dtP X h h')) := by
    intro q
    refine ev_iconst (v := 0) d_DateReader_seconds_35 (by decide) ?_
    refine ev_istore_n d_DateReader_seconds_36 rfl (by decide) ?_
    refine ev_aload_n d_DateReader_seconds_37 rfl rfl ?_
    refine ev_iload_n d_DateReader_seconds_38 rfl rfl ?_
    refine ev_if_eq (tgt := 46) d_DateReader_seconds_39 (by decide) (fun _ => ?_) (fun z => absurd rfl z)
    refine ev_iconst (v := 0) d_DateReader_seconds_46 (by decide) ?_
    rw [q]
    exact a47 0 0 (by decide)
  refine ct_of (ws' := tb_all) rfl rfl (Nat.le_of_ble_eq_true rfl) ?_
  refine ev_aload_n d_DateReader_seconds_0 rfl rfl ?_
  refine ev_get (fa_DateReader_11 rfl rfl) d_DateReader_seconds_1 hA rfl ?_
  refine ev_Vv (ci := 4) [] [] ca_DateReader_seconds_21 d_DateReader_seconds_4 rfl (hW) rfl (Nat.le_of_ble_eq_true rfl) (w_wkinds hW) ?_
  refine ev_iconst (v := 0) d_DateReader_seconds_7 (by decide) ?_
  refine ev_Vv (ci := 1) [.int (nI 0)] [] ca_DateReader_seconds_27 d_DateReader_seconds_8 rfl ((S.1.1 _ m16).1.1) rfl (Nat.le_of_ble_eq_true rfl) (w_get hT S.1 m16 (nI 0)) ?_
  rw [dW_k H (by decide)]
  refine ev_iconst (v := 1) d_DateReader_seconds_11 (by decide) ?_
  refine ev_icmp_ne (tgt := 35) d_DateReader_seconds_12 (by decide) (fun c_12 => ?_) (fun c_12 => ?_)
  · exact n35 (if_neg (fun z => c_12 (ka.mpr z.2)))
  · refine ev_aload_n d_DateReader_seconds_15 rfl rfl ?_
    refine ev_get (fa_DateReader_11 rfl rfl) d_DateReader_seconds_16 hA rfl ?_
    refine ev_Vv (ci := 4) [] [] ca_DateReader_seconds_21 d_DateReader_seconds_19 rfl (hW) rfl (Nat.le_of_ble_eq_true rfl) (w_wkinds hW) ?_
    refine ev_iconst (v := 1) d_DateReader_seconds_22 (by decide) ?_
    refine ev_Vv (ci := 1) [.int (nI 1)] [] ca_DateReader_seconds_27 d_DateReader_seconds_23 rfl ((S.1.1 _ m16).1.1) rfl (Nat.le_of_ble_eq_true rfl) (w_get hT S.1 m16 (nI 1)) ?_
    rw [dW_k H (by decide)]
    refine ev_bipush (v := 44) d_DateReader_seconds_26 (by decide) ?_
    refine ev_icmp_ne (tgt := 35) d_DateReader_seconds_28 (by decide) (fun c_28 => ?_) (fun c_28 => ?_)
    · exact n35 (if_neg (fun z => c_28 (kb.mpr z.1)))
    · refine ev_iconst (v := 1) d_DateReader_seconds_31 (by decide) ?_
      refine ev_goto (tgt := 36) d_DateReader_seconds_32 (by decide) ?_
      refine ev_istore_n d_DateReader_seconds_36 rfl (by decide) ?_
      refine ev_aload_n d_DateReader_seconds_37 rfl rfl ?_
      refine ev_iload_n d_DateReader_seconds_38 rfl rfl ?_
      refine ev_if_eq (tgt := 46) d_DateReader_seconds_39 (by decide) (fun z => absurd z (by decide)) (fun _ => ?_)
      refine ev_iconst (v := 2) d_DateReader_seconds_42 (by decide) ?_
      refine ev_goto (tgt := 47) d_DateReader_seconds_43 (by decide) ?_
      rw [show wkd N = 2 from if_pos ⟨kb.mp c_28, ka.mp c_12⟩]
      exact a47 1 2 (by decide)
end DCLS3
section MAIL7
variable {G : gl_G} {cI cZ cJ : ClassId} {s170 sa sb tm tz sm sz : Nat} {X : Nat} {B T : List Int32} {F : Flds} {bd : Nat}
theorem y_date (hNm : gl_nm G) (hT : (gl_t G)[0]? = some (cI, .int)) (hG : gSg G sa sb) (hS2 : gS2 G sa sb) (hD : gDt G tm tz sm sz) (hy : byS B T F) {h : hp_T} {σ : rwT} (C : clS cI X h σ B T F bd) (O : obS X h) {j : Nat} {q : List Int32 × List Int32} (hq : F[j]? = some q) (hf : hdT (nI F.length) (nI j) 1 = nI (2 * j + 1)) : ct_E G m_Mail_date [.ref X, .int (nI j)] h (cr (fun y h' => y = .long (dvl q.2) ∧ clQ cI X h σ [12, 14, 16] B T F bd h')) := by
  obtain ⟨S, H, C3, C4, -⟩ := id C
  obtain ⟨⟨a, b, c, O1⟩, -⟩ := id O
  have hj := (List.getElem?_eq_some_iff.mp hq).1
  have h40 := H.2.2.2.2
  have hne : hdT (nI F.length) (nI j) 1 ≠ -1 := by
    rw [hf]
    exact fun z => nI_pos (n := 2 * j + 1) (by omega) (by rw [z]; decide)
  obtain ⟨hV, hl⟩ := hv_of C hq
  have hB := val_byt hy.2.2 hq
  refine ct_of (ws' := tb_all) rfl rfl (Nat.le_of_ble_eq_true rfl) ?_
  refine ev_aload_n d_Mail_date_0 rfl rfl ?_
  refine ev_get (fa_Mail_30 rfl rfl) d_Mail_date_1 C4 rfl ?_
  refine ev_aload_n d_Mail_date_4 rfl rfl ?_
  refine ev_get (fa_Mail_23 rfl rfl) d_Mail_date_5 C4 rfl ?_
  refine ev_Vv (ci := 2) [] [.ref (X + 10)] ca_Mail_date_102 d_Mail_date_8 rfl (H.1) rfl (Nat.le_of_ble_eq_true rfl) (c_Head_texts H.1) ?_
  refine ev_aload_n d_Mail_date_11 rfl rfl ?_
  refine ev_iload_n d_Mail_date_12 rfl rfl ?_
  refine ev_Vv (ci := 0) [.int (nI j)] [.ref (X + 5), .ref (X + 10)] ca_Mail_date_117 d_Mail_date_13 rfl (C4) rfl (Nat.le_of_ble_eq_true rfl) (w_valueOf C (nI j) hne) ?_
  rw [hf]
  refine ev_ldcS (tx := "<>:;@,.)]\\") hG.1.1 d_Mail_date_16 ?_
  refine ev_iconst (v := 0) d_Mail_date_18 (by decide) ?_
  refine ev_Vn (ci := 4) [.ref (X + 5), .int _, .ref sa, .int (bI false)] [] ca_Mail_date_122 d_Mail_date_19 rfl (O1) rfl (Nat.le_of_ble_eq_true rfl) (z_cut hT hS2.1 hl hB false S O1 hV) (fun h1 z => ?_)
  obtain ⟨hA1, σ1, S1, k1, p1, W1⟩ := z
  obtain ⟨C1, Ob1⟩ := cut_cl C O hA1 S1 k1 p1
  obtain ⟨-, -, -, ⟨a4, O4⟩, -⟩ := id Ob1
  have hN : ∀ w ∈ nc (wcut false q.2.length q.2), wfW w := fun w hw => wcut_wf false _ _ w (List.mem_filter.mp hw).1
  have eW : cwd false (wcut false q.2.length q.2) = (nc (wcut false q.2.length q.2)).map (fun w => (cK w, w.2.2)) := cwd_nc _
  rw [eW] at W1
  obtain ⟨g1, g2⟩ := cwd_len false false q.2.length q.2 (Nat.le_refl _)
  rw [eW, List.length_map] at g1
  rw [eW] at g2
  have HW : dW σ1 (nc (wcut false q.2.length q.2)) := ⟨W1, hN, by omega, by omega⟩
  refine ev_aload_n d_Mail_date_22 rfl rfl ?_
  refine ev_get (fa_Mail_53 rfl rfl) d_Mail_date_23 C1.2.2.2.1 rfl ?_
  refine ev_Vr (ci := 7) [] [] ca_Mail_date_136 d_Mail_date_26 rfl (O4) rfl (Nat.le_of_ble_eq_true rfl) (y_seconds hNm hT hD S1 HW (obS_dO Ob1)) (fun v h1 z => ?_)
  obtain ⟨rfl, d1⟩ := z
  have S2 := dS_go S1 (obS_dO Ob1) d1
  have D2 := dO_go (obS_dO Ob1) d1
  obtain ⟨p, rfl⟩ := d1
  have k2 : kR [X + 39] X h1 σ1 (hp_up h1 (X + 39) (.inr (dtO X p))) σ1 := kR_up (by simp)
  have C2 := clS_go C1 S2 k2 (by simp) (by simp) (by simp) (fun τ hτ => rfl)
  have Ob2 := obS_go S1 k2 Ob1 (by simp) (by simp) (Or.inl (by simp)) (Or.inl (by simp)) (Or.inr D2.1)
  refine ev_lret d_Mail_date_29 rfl ?_
  exact ⟨_, rfl, rfl, σ1, ⟨C2, Ob2⟩, kR_tr (kR_sub k1 (by simp)) (kR_sub k2 (by simp)), p1⟩
theorem y_Law_date (hNm : gl_nm G) (hT : (gl_t G)[0]? = some (cI, .int)) (hJ : (gl_t G)[2]? = some (cJ, .long)) (hE : gl_ex G s170) (hG : gSg G sa sb) (hS2 : gS2 G sa sb) (hD : gDt G tm tz sm sz) (hy : byS B T F) {h : hp_T} {σ : rwT} (C : clS cI X h σ B T F bd) (O : obS X h) (o : oC cJ X h) (f : Int32) : ct_E G m_Law_date [.ref X, .int f, .ref (X + 98)] h (cr (fun v h' => (v = .int 1 ∧ sp_isField (nI F.length) f = 0 ∧ hQs cI cJ X h σ B T F bd none (fun σ' => σ' = σ) h') ∨ ∃ (j : Nat) (q : List Int32 × List Int32), v = .int 0 ∧ f = nI j ∧ F[j]? = some q ∧ hQs cI cJ X h σ B T F bd (some (dvl q.2)) (fun σ' => ∀ τ, τ ∉ [12, 14, 16] → (σ' τ).2.2 = (σ τ).2.2) h')) := by
  have m5 : (5 : Nat) ∈ txs := by decide
  obtain ⟨S, H, C3, C4, -⟩ := id C
  refine ct_ofH (hs := hs_Law_date) (ws' := tb_all) rfl rfl (Nat.le_of_ble_eq_true rfl) ?_
  rcases hd_cases H.2.2.2.2 f with ⟨hf, hs⟩ | ⟨j, q, rfl, hq, hf, hs⟩
  · refine ev_aload_n d_Law_date_0 rfl rfl ?_
    refine ev_iconst (v := 0) d_Law_date_1 (by decide) ?_
    refine ev_aload_n d_Law_date_2 rfl rfl ?_
    refine ev_iload_n d_Law_date_3 rfl rfl ?_
    refine ev_Vt (ci := 0) (a0 := 0) (a1 := 8) (hpc := 11) (ix := 13) [.int f] [.int 0, .ref (X + 98)] ca_Law_date_18 d_Law_date_4 rfl C4 rfl (Nat.le_of_ble_eq_true rfl) (x_date hE C4 H.1 (tS_tx S m5) f (by rw [hd_cnt C]; exact hf)) List.mem_cons_self (by decide) (by decide) (by decide) (List.mem_cons_of_mem _ tw_490) (fun U args hL => hE.2.1 U args hL _ (List.mem_of_getElem? (i := 7) rfl)) ?_
    refine ev_astore_n d_Law_date_11 rfl (by decide) ?_
    refine ev_iconst (v := 1) d_Law_date_12 (by decide) ?_
    refine ev_iret d_Law_date_13 rfl ?_
    exact ⟨_, rfl, Or.inl ⟨rfl, hs, hQs_more C O o⟩⟩
  · refine ev_aload_n d_Law_date_0 rfl rfl ?_
    refine ev_iconst (v := 0) d_Law_date_1 (by decide) ?_
    refine ev_aload_n d_Law_date_2 rfl rfl ?_
    refine ev_iload_n d_Law_date_3 rfl rfl ?_
    refine ev_Vr (ci := 0) [.int (nI j)] [.int 0, .ref (X + 98)] ca_Law_date_18 d_Law_date_4 rfl (C4) rfl (Nat.le_of_ble_eq_true rfl) (y_date hNm hT hG hS2 hD hy C O hq hf) (fun v h1 z => ?_)
    obtain ⟨rfl, σ1, ⟨C1, O1⟩, k1, f1⟩ := z
    obtain ⟨f0, ho⟩ : oC cJ X h1 := mid_oC o (fun q q1 q2 => kR_mid C.1 k1 mQ_mid q1 q2)
    refine ev_last hJ ho (pk_in 0 1 (by decide)) d_Law_date_7 ?_
    refine ev_goto (tgt := 14) d_Law_date_8 (by decide) ?_
    refine ev_iconst (v := 0) d_Law_date_14 (by decide) ?_
    refine ev_iret d_Law_date_15 rfl ?_
    exact ⟨_, rfl, Or.inr ⟨j, q, rfl, rfl, hq, hQs_up f1 C O C1 O1 k1⟩⟩
end MAIL7
