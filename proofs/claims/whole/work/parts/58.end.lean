section FEND
variable {G : gl_G} {cI : ClassId} {str : Nat} {h : hp_T} {X : Nat}
/-- while end takes the bytes over: i of them lie on the tape -/
def eT (cI : ClassId) (X : Nat) (h hi : hp_T) (i : Nat) : Prop := ∃ (c cap : Nat) (xs : List Int32), rw_at cI hi (X + 2) c cap xs ∧ xs.length = i ∧ (c = X + 3 ∧ cap = 16 ∧ hi.1 = h.1 ∧ hi.2.1 = h.2.1 ∨ c = h.1 ∧ cap = 32 ∧ hi.1 = h.1 + 1 ∧ hi.2.1 = h.2.1 + 32) ∧ ∀ q, q ≠ X + 2 → q ≠ X + 3 → q < h.1 → hi.2.2 q = h.2.2 q
theorem l_end (hT : (gl_t G)[0]? = some (cI, .int)) (F : fr cI str X h) {m : Nat} (hm : m ≤ 20) : ∀ (d i : Nat) (hi : hp_T), i + d = m → eT cI X h hi i → ev_E G m_Mail_end 29 [(0, .ref X), (1, .int (nI m)), (2, .int (nI i))] [] hi (cr fun v h' => v = .int (nI m) ∧ kf X h h') := by
  have hX69 := F.2
  intro d
  induction d with
  | zero =>
    intro i hi hd E
    obtain ⟨c, cap, xs, hr, hl, hc, hq⟩ := E
    have him : i = m := by omega
    have hX : hi.2.2 X = some (ml_o X) := by rw [hq X (by omega) (by omega) (by omega)]; exact fr_X F
    have hR : hi.2.2 (X + 1) = some (.inl (cI, 5, .inl (fun _ => 0))) := by rw [hq (X + 1) (by omega) (by omega) (by omega)]; exact fr_ready F
    refine ev_iload_n d_Mail_end_29 rfl rfl ?_
    refine ev_iload_n d_Mail_end_30 rfl rfl ?_
    refine ev_icmp_ge (tgt := 69) d_Mail_end_31 (by decide) (fun _ => ?_) (fun z => absurd (nI_le (by omega) (by omega)) z)
    refine ev_aload_n d_Mail_end_69 rfl rfl ?_
    refine ev_get (fa_Mail_9 rfl rfl) d_Mail_end_70 hX rfl ?_
    refine ev_iconst (v := 0) d_Mail_end_73 (by decide) ?_
    refine ev_Sn [.ref (X + 1), .int 0] [] ca_Mail_end_79 d_Mail_end_74 rfl (Nat.le_of_ble_eq_true rfl) (c_fill hT hR (by decide) 0) (fun h1 z => ?_)
    subst z
    have hX2 : ∀ e1 : va_E, (hp_up hi (X + 1) e1).2.2 X = some (ml_o X) := fun e1 => by rw [hp_up_ne (by omega)]; exact hX
    have hr2 : ∀ e1 : va_E, (hp_up hi (X + 1) e1).2.2 (X + 2) = some (.inr (1, [.ref c, .int (nI xs.length)])) := fun e1 => by rw [hp_up_ne (by omega)]; exact hr.1
    refine ev_aload_n d_Mail_end_77 rfl rfl ?_
    refine ev_get (fa_Mail_16 rfl rfl) d_Mail_end_78 (hX2 _) rfl ?_
    refine ev_Vv (ci := 1) [] [] ca_Mail_end_71 d_Mail_end_81 rfl ((hr2 _)) rfl (Nat.le_of_ble_eq_true rfl) (c_Row_size (x := .null) (hr2 _)) ?_
    refine ev_iret d_Mail_end_84 rfl ?_
    refine ⟨_, rfl, by rw [hl, him], ?_⟩
    refine ⟨?_, ?_, ?_, ?_, fun q h1 h2 => ?_⟩
    · show h.1 ≤ hi.1; omega
    · show hi.1 ≤ h.1 + 1; omega
    · show h.2.1 ≤ hi.2.1; omega
    · show hi.2.1 ≤ h.2.1 + 32; omega
    · rw [hp_up_ne (by omega)]
      exact hq q (by omega) (by omega) h2
  | succ d ih =>
    intro i hi hd E
    obtain ⟨c, cap, xs, hr, hl, hc, hq⟩ := E
    have hX : hi.2.2 X = some (ml_o X) := by rw [hq X (by omega) (by omega) (by omega)]; exact fr_X F
    have hR : hi.2.2 (X + 1) = some (.inl (cI, 5, .inl (fun _ => 0))) := by rw [hq (X + 1) (by omega) (by omega) (by omega)]; exact fr_ready F
    have hin : vp_in (nI i / 4) 5 := by
      rw [show nI i / 4 = nI (i / 4) from pk_div (d := 4) (by omega) (by decide) (by decide)]
      exact vp_in_nI (by omega) (by decide)
    refine ev_iload_n d_Mail_end_29 rfl rfl ?_
    refine ev_iload_n d_Mail_end_30 rfl rfl ?_
    refine ev_icmp_ge (tgt := 69) d_Mail_end_31 (by decide) (fun z => absurd z (nI_ge (by omega) (by omega))) (fun _ => ?_)
    refine ev_aload_n d_Mail_end_34 rfl rfl ?_
    refine ev_get (fa_Mail_16 rfl rfl) d_Mail_end_35 hX rfl ?_
    refine ev_aload_n d_Mail_end_38 rfl rfl ?_
    refine ev_get (fa_Mail_9 rfl rfl) d_Mail_end_39 hX rfl ?_
    refine ev_iload_n d_Mail_end_42 rfl rfl ?_
    refine ev_iconst (v := 4) d_Mail_end_43 (by decide) ?_
    refine ev_idiv d_Mail_end_44 (by decide) ?_
    refine ev_iald hT hR hin d_Mail_end_45 ?_
    refine ev_bipush (v := 24) d_Mail_end_46 (by decide) ?_
    refine ev_bipush (v := 8) d_Mail_end_48 (by decide) ?_
    refine ev_iload_n d_Mail_end_50 rfl rfl ?_
    refine ev_iconst (v := 4) d_Mail_end_51 (by decide) ?_
    refine ev_irem d_Mail_end_52 (by decide) ?_
    refine ev_imul d_Mail_end_53 ?_
    refine ev_isub d_Mail_end_54 ?_
    refine ev_iushr d_Mail_end_55 ?_
    refine ev_sipush (v := 255) d_Mail_end_56 (by decide) ?_
    refine ev_iand d_Mail_end_59 ?_
    refine ev_Vn (ci := 1) [.int _] [] ca_Mail_end_75 d_Mail_end_60 rfl (hr.1) rfl (Nat.le_of_ble_eq_true rfl) (c_Row_add hT hr _ (by omega) (by omega) (by omega) (fun _ => by omega)) (fun h1 z => ?_)
    obtain ⟨c', cap', z1, z2, z3⟩ := z
    refine ev_iinc d_Mail_end_63 rfl (by decide) ?_
    refine ev_goto (tgt := 29) d_Mail_end_66 (by decide) ?_
    rw [show nI i + Int32.ofInt 1 = nI (i + 1) from nI_1 i]
    refine ih (i + 1) h1 (by omega) ⟨c', cap', _, z1, by rw [List.length_append, hl]; rfl, ?_, fun q q1 q2 q3 => ?_⟩
    · omega
    · rw [z3 q q1 (by omega) (by omega)]
      exact hq q q1 q2 q3
theorem f_end (hT : (gl_t G)[0]? = some (cI, .int)) (F : fr cI str X h) (n : Int32) : ct_E G m_Mail_end [.ref X, .int n] h (cr fun v h' => (¬ okE 0 n ∧ v = .int (-1) ∧ kf X h h') ∨ ∃ m : Nat, m ≤ 20 ∧ n = nI m ∧ v = .int (nI m) ∧ kf X h h') := by
  refine ct_of (ws' := tb_all) rfl rfl (Nat.le_of_ble_eq_true rfl) ?_
  refine ev_iload_n d_Mail_end_0 rfl rfl ?_
  refine ev_if_lt (tgt := 25) d_Mail_end_1 (by decide) (fun c_1 => ?_) (fun c_1 => ?_)
  · refine ev_iconst (v := (-1)) d_Mail_end_25 (by decide) ?_
    refine ev_iret d_Mail_end_26 rfl ?_
    refine ⟨_, rfl, Or.inl ⟨?_, rfl, kf_rf⟩⟩
    rintro ⟨m, h1, h2, rfl⟩
    exact nI_pos (by omega) c_1
  · obtain ⟨m, hm, rfl⟩ := nI_of c_1
    refine ev_iload_n d_Mail_end_4 rfl rfl ?_
    refine ev_bipush (v := 20) d_Mail_end_5 (by decide) ?_
    refine ev_icmp_gt (tgt := 25) d_Mail_end_7 (by decide) (fun c_7 => ?_) (fun c_7 => ?_)
    · refine ev_iconst (v := (-1)) d_Mail_end_25 (by decide) ?_
      refine ev_iret d_Mail_end_26 rfl ?_
      refine ⟨_, rfl, Or.inl ⟨?_, rfl, kf_rf⟩⟩
      rintro ⟨m', h1, h2, e⟩
      have e2 := (nI_eq hm (by omega)).mp e
      exact absurd c_7 (nI_nlt (a := 20) (b := m) (by omega) (by omega))
    · have hm20 : m ≤ 20 := by
        rcases Nat.lt_or_ge 20 m with q | q
        · exact absurd (nI_lt q hm) c_7
        · exact q
      refine ev_aload_n d_Mail_end_10 rfl rfl ?_
      refine ev_get (fa_Mail_16 rfl rfl) d_Mail_end_11 (fr_X F) rfl ?_
      refine ev_Vv (ci := 1) [] [] ca_Mail_end_71 d_Mail_end_14 rfl ((fr_tape F).1) rfl (Nat.le_of_ble_eq_true rfl) (c_Row_size (x := .null) (fr_tape F).1) ?_
      refine ev_iload_n d_Mail_end_17 rfl rfl ?_
      refine ev_iadd d_Mail_end_18 ?_
      refine ev_sipush (v := 1500) d_Mail_end_19 (by decide) ?_
      refine ev_icmp_le (tgt := 27) d_Mail_end_22 (by decide) (fun _ => ?_) (fun z => absurd (by rw [show nI ([] : List Int32).length + nI m = nI (0 + m) from nI_add 0 m]; exact nI_le (a := 0 + m) (b := 1500) (by omega) (by omega)) z)
      refine ev_iconst (v := 0) d_Mail_end_27 (by decide) ?_
      refine ev_istore_n d_Mail_end_28 rfl (by decide) ?_
      refine ev_to (l_end hT F hm20 m 0 h (by omega) ⟨X + 3, 16, [], fr_tape F, rfl, Or.inl ⟨rfl, rfl, rfl, rfl⟩, fun _ _ _ _ => rfl⟩) ?_
      rintro o h' ⟨v, rfl, rfl, k⟩
      exact ⟨_, rfl, Or.inr ⟨m, hm20, rfl, rfl, k⟩⟩
end FEND
