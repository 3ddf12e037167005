section MAIL4
variable {G : gl_G} {cI : ClassId} {h : hp_T} {X : Nat} {σ : rwT} {B T : List Int32} {F : Flds} {bd : Nat}
theorem by8_0 : ∀ k, k < 4 → by8 0 (nI k) = 0 := by decide +kernel
theorem l_end2 (hT : (gl_t G)[0]? = some (cI, .int)) (C : clS cI X h σ B T F bd) (hB : B.length = 20) {m : Nat} (hm : m ≤ 20) (hTm : T.length + m ≤ 1500) : ∀ (d i : Nat) (hi : hp_T) (τ : rwT), i + d = m → clS cI X hi τ B (T ++ B.take i) F bd → kR (mO X) X h σ hi τ → (∀ υ, υ ∉ [2, 6, 8] → (τ υ).2.2 = (σ υ).2.2) → ev_E G m_Mail_end 29 [(0, .ref X), (1, .int (nI m)), (2, .int (nI i))] [] hi (cr fun v h' => v = .int (nI (T.length + m)) ∧ clP cI X h σ (List.replicate 20 0) (T ++ B.take m) F bd h') := by
  have m2 : (2 : Nat) ∈ rws := by decide
  intro d
  induction d with
  | zero =>
    intro i hi τ hd C1 r1 fr1
    have him : i = m := by omega
    subst him
    obtain ⟨S, H, C3, C4, ⟨f5, C5, C6⟩, C7, C8, C9⟩ := C1
    have hX2 : ∀ e1 : va_E, (hp_up hi (X + 1) e1).2.2 X = some (ml_o X) := fun e1 => by rw [hp_up_ne (by omega)]; exact C4
    refine ev_iload_n d_Mail_end_29 rfl rfl ?_
    refine ev_iload_n d_Mail_end_30 rfl rfl ?_
    refine ev_icmp_ge (tgt := 69) d_Mail_end_31 (by decide) (fun _ => ?_) (fun z => absurd (nI_le (by omega) (by omega)) z)
    refine ev_aload_n d_Mail_end_69 rfl rfl ?_
    refine ev_get (fa_Mail_9 rfl rfl) d_Mail_end_70 C4 rfl ?_
    refine ev_iconst (v := 0) d_Mail_end_73 (by decide) ?_
    refine ev_Sn [.ref (X + 1), .int 0] [] ca_Mail_end_79 d_Mail_end_74 rfl (Nat.le_of_ble_eq_true rfl) (c_fill hT C5 (by decide) 0) (fun h1 z => ?_)
    subst z
    have S2 : tS cI X (hp_up hi (X + 1) (.inl (cI, 5, .inl (fl f5 0 5)))) τ := tS_arr S C7
    refine ev_aload_n d_Mail_end_77 rfl rfl ?_
    refine ev_get (fa_Mail_16 rfl rfl) d_Mail_end_78 (hX2 _) rfl ?_
    refine ev_Vv (ci := 1) [] [] ca_Mail_end_71 d_Mail_end_81 rfl ((S2.1.1 _ m2).1.1) rfl (Nat.le_of_ble_eq_true rfl) (w_size S2.1 m2) ?_
    refine ev_iret d_Mail_end_84 rfl ?_
    refine ⟨_, rfl, ?_, τ, ⟨S2, ⟨by rw [hp_up_ne (by omega)]; exact H.1, H.2⟩, C3, hX2 _, ⟨_, hp_up_self _ _ _, fun j hj => ?_⟩, C7, C8, C9⟩, kR_tr r1 (kR_up (by simp)), fr1⟩
    · rw [C8, List.length_append, List.length_take, hB, Nat.min_eq_left hm]
    · show by8 (if j / 4 < 5 then 0 else _) _ = _
      rw [if_pos (by omega), by8_0 _ (by omega), List.getD_eq_getElem?_getD, List.getElem?_replicate, if_pos hj]
      rfl
  | succ d ih =>
    intro i hi τ hd C1 r1 fr1
    obtain ⟨S, H, C3, C4, ⟨f5, C5, C6⟩, C7, C8, C9⟩ := id C1
    have hX := S.1.2.2
    have hin : vp_in (nI i / 4) 5 := by
      rw [show nI i / 4 = nI (i / 4) from pk_div (d := 4) (by omega) (by decide) (by decide)]
      exact vp_in_nI (by omega) (by decide)
    refine ev_iload_n d_Mail_end_29 rfl rfl ?_
    refine ev_iload_n d_Mail_end_30 rfl rfl ?_
    refine ev_icmp_ge (tgt := 69) d_Mail_end_31 (by decide) (fun z => absurd z (nI_ge (by omega) (by omega))) (fun _ => ?_)
    refine ev_aload_n d_Mail_end_34 rfl rfl ?_
    refine ev_get (fa_Mail_16 rfl rfl) d_Mail_end_35 C4 rfl ?_
    refine ev_aload_n d_Mail_end_38 rfl rfl ?_
    refine ev_get (fa_Mail_9 rfl rfl) d_Mail_end_39 C4 rfl ?_
    refine ev_iload_n d_Mail_end_42 rfl rfl ?_
    refine ev_iconst (v := 4) d_Mail_end_43 (by decide) ?_
    refine ev_idiv d_Mail_end_44 (by decide) ?_
    refine ev_iald hT C5 hin d_Mail_end_45 ?_
    rw [show nI i / 4 = nI (i / 4) from pk_div (d := 4) (by omega) (by decide) (by decide), nI_clamp (by omega)]
    refine ev_bipush (v := 24) d_Mail_end_46 (by decide) ?_
    refine ev_bipush (v := 8) d_Mail_end_48 (by decide) ?_
    refine ev_iload_n d_Mail_end_50 rfl rfl ?_
    refine ev_iconst (v := 4) d_Mail_end_51 (by decide) ?_
    refine ev_irem d_Mail_end_52 (by decide) ?_
    rw [show nI i - nI i / 4 * 4 = nI (i % 4) from pk_rem (d := 4) (by omega) (by decide) (by decide)]
    refine ev_imul d_Mail_end_53 ?_
    refine ev_isub d_Mail_end_54 ?_
    refine ev_iushr d_Mail_end_55 ?_
    refine ev_sipush (v := 255) d_Mail_end_56 (by decide) ?_
    refine ev_iand d_Mail_end_59 ?_
    have hv : by8 (f5 (i / 4)) (nI (i % 4)) = B.getD i 0 := C6 i (by omega)
    refine ev_Vn (ci := 1) [.int (by8 (f5 (i / 4)) (nI (i % 4)))] [] ca_Mail_end_75 d_Mail_end_60 rfl (S.1.1 _ m2).1.1 rfl (Nat.le_of_ble_eq_true rfl) (w_add hT S.1 m2 _) (fun h1 z => ?_)
    rw [hv] at z
    obtain ⟨c', cap', q1, q2⟩ := z
    have hl : (T ++ B.take i).length = T.length + i := by rw [List.length_append, List.length_take]; omega
    have ea : addR (τ 2).2.2 (B.getD i 0) = T ++ B.take (i + 1) := by
      rw [C8]
      unfold addR
      rw [if_pos (by omega), List.append_assoc]
      congr 1
      rw [List.take_succ_eq_append_getElem (by omega), List.getD_eq_getElem?_getD, List.getElem?_eq_getElem (by omega)]
      rfl
    rw [ea] at q1 q2
    have S2 := tS_go S q1 q2
    have K4 := rwR_obj S.1 q2 C4 (by omega) (nrow (q := 0) (by decide))
    obtain ⟨K5, K7⟩ := kR_arr (O := []) (kR_of q2) C7 (by simp) hX
    refine ev_iinc d_Mail_end_63 rfl (by decide) ?_
    refine ev_goto (tgt := 29) d_Mail_end_66 (by decide) ?_
    rw [show nI i + Int32.ofInt 1 = nI (i + 1) from nI_1 i]
    refine ih (i + 1) h1 _ (by omega) ⟨S2, ⟨rwR_obj S.1 q2 H.1 (by omega) (nrow (by decide)), H.2.1, H.2.2.1, H.2.2.2.1, H.2.2.2.2⟩, C3, K4, ⟨f5, by rw [K5]; exact C5, C6⟩, K7, by rw [rwU_at], by rw [List.length_append, List.length_take]; omega⟩ (kR_tr r1 (kR_of q2)) (fun υ hυ => by rw [rwU_ne (fun z => hυ (by simp [z]))]; exact fr1 υ hυ)
theorem w_end (hT : (gl_t G)[0]? = some (cI, .int)) (C : clS cI X h σ B T F bd) (hB : B.length = 20) (n : Int32) : ct_E G m_Mail_end [.ref X, .int n] h (cr fun v h' => (¬ okE T.length n ∧ v = .int (-1) ∧ h' = h) ∨ ∃ m : Nat, m ≤ 20 ∧ T.length + m ≤ 1500 ∧ n = nI m ∧ v = .int (nI (T.length + m)) ∧ clP cI X h σ (List.replicate 20 0) (T ++ B.take m) F bd h') := by
  have m2 : (2 : Nat) ∈ rws := by decide
  have C0 := C
  obtain ⟨S, H, C3, C4, ⟨f5, C5, C6⟩, C7, C8, C9⟩ := C
  refine ct_of (ws' := tb_all) rfl rfl (Nat.le_of_ble_eq_true rfl) ?_
  refine ev_iload_n d_Mail_end_0 rfl rfl ?_
  refine ev_if_lt (tgt := 25) d_Mail_end_1 (by decide) (fun c_1 => ?_) (fun c_1 => ?_)
  · refine ev_iconst (v := (-1)) d_Mail_end_25 (by decide) ?_
    refine ev_iret d_Mail_end_26 rfl ?_
    refine ⟨_, rfl, Or.inl ⟨?_, rfl, rfl⟩⟩
    rintro ⟨m, h1, h2, rfl⟩
    exact nI_pos (by omega) c_1
  · obtain ⟨m, hm, rfl⟩ := nI_of c_1
    refine ev_iload_n d_Mail_end_4 rfl rfl ?_
    refine ev_bipush (v := 20) d_Mail_end_5 (by decide) ?_
    refine ev_icmp_gt (tgt := 25) d_Mail_end_7 (by decide) (fun c_7 => ?_) (fun c_7 => ?_)
    · refine ev_iconst (v := (-1)) d_Mail_end_25 (by decide) ?_
      refine ev_iret d_Mail_end_26 rfl ?_
      refine ⟨_, rfl, Or.inl ⟨?_, rfl, rfl⟩⟩
      rintro ⟨m', h1, h2, e⟩
      have e2 := (nI_eq hm (by omega)).mp e
      exact absurd c_7 (nI_nlt (a := 20) (b := m) (by omega) (by omega))
    · have hm20 : m ≤ 20 := by
        rcases Nat.lt_or_ge 20 m with q | q
        · exact absurd (nI_lt q hm) c_7
        · exact q
      refine ev_aload_n d_Mail_end_10 rfl rfl ?_
      refine ev_get (fa_Mail_16 rfl rfl) d_Mail_end_11 C4 rfl ?_
      refine ev_Vv (ci := 1) [] [] ca_Mail_end_71 d_Mail_end_14 rfl ((S.1.1 _ m2).1.1) rfl (Nat.le_of_ble_eq_true rfl) (w_size S.1 m2) ?_
      rw [C8]
      refine ev_iload_n d_Mail_end_17 rfl rfl ?_
      refine ev_iadd d_Mail_end_18 ?_
      rw [nI_add]
      refine ev_sipush (v := 1500) d_Mail_end_19 (by decide) ?_
      refine ev_icmp_le (tgt := 27) d_Mail_end_22 (by decide) (fun c_22 => ?_) (fun c_22 => ?_)
      · have hle := (nI_leI (a := T.length + m) (b := 1500) (by omega) (by omega)).mp c_22
        refine ev_iconst (v := 0) d_Mail_end_27 (by decide) ?_
        refine ev_istore_n d_Mail_end_28 rfl (by decide) ?_
        refine ev_to (l_end2 hT C0 hB hm20 hle m 0 h σ (by omega) (by simpa using C0) kR_rf (fun _ _ => rfl)) ?_
        rintro o h' ⟨v, rfl, rfl, k⟩
        exact ⟨_, rfl, Or.inr ⟨m, hm20, hle, rfl, rfl, k⟩⟩
      · refine ev_iconst (v := (-1)) d_Mail_end_25 (by decide) ?_
        refine ev_iret d_Mail_end_26 rfl ?_
        refine ⟨_, rfl, Or.inl ⟨?_, rfl, rfl⟩⟩
        rintro ⟨m', h1, h2, e⟩
        have e2 := (nI_eq hm (by omega)).mp e
        exact c_22 (nI_le (a := T.length + m) (b := 1500) (by omega) (by omega))
end MAIL4
