/-! the reference: feed, end -/
def fed (f : Nat → Int32) (a b c d e : Int32) : Nat → Int32 := rdy (rdy (rdy (rdy (rdy f 0 a 4) 4 b 4) 8 c 4) 12 d 4) 16 e 4
def cpr (f g : Nat → Int32) (o m : Nat) : Nat → Int32 := fun j => if o ≤ j ∧ j < o + m then g (j - o) else f j
def zrr (f : Nat → Int32) (m : Nat) : Nat → Int32 := fun j => if j < m then 0 else f j
theorem cpr_0 (f g : Nat → Int32) (o : Nat) : cpr f g o 0 = f := by
  funext j
  exact if_neg (by omega)
theorem cpr_s (f g : Nat → Int32) (o m : Nat) : upd (cpr f g o m) (o + m) (g m) = cpr f g o (m + 1) := by
  funext j
  unfold upd cpr
  by_cases hj : j = o + m
  · subst hj
    rw [if_pos rfl, if_pos (by omega), Nat.add_sub_cancel_left]
  · rw [if_neg hj]
    by_cases h : o ≤ j ∧ j < o + m
    · rw [if_pos h, if_pos (by omega)]
    · rw [if_neg h, if_neg (by omega)]
theorem zrr_0 (f : Nat → Int32) : zrr f 0 = f := by
  funext j
  exact if_neg (by omega)
theorem zrr_s (f : Nat → Int32) (m : Nat) : upd (zrr f m) m 0 = zrr f (m + 1) := by
  funext j
  unfold upd zrr
  by_cases hj : j = m
  · subst hj
    rw [if_pos rfl, if_pos (by omega)]
  · rw [if_neg hj]
    by_cases h : j < m
    · rw [if_pos h, if_pos (by omega)]
    · rw [if_neg h, if_neg (by omega)]
theorem up_same {α : Type} (R : Nat → α) (k : Nat) : va_up R k (R k) = R := by
  funext j
  by_cases hj : j = k
  · rw [hj, va_up_self]
  · rw [va_up_ne _ _ hj]
theorem up_ne {α : Type} {R : Nat → α} {k j : Nat} {v : α} (h : j ≠ k) : va_up R k v j = R j := va_up_ne _ _ h
section TAPE2
variable {G : gl_G} {cI cZ : ClassId} {h0 : hp_T} {M : Nat} {I : Nat → Int32}
theorem c_Model_feed (hT : (gl_t G)[0]? = some (cI, .int)) (R : Nat → Nat → Int32) (a b c d e : Int32) : ct_E G m_Model_feed [.ref M, .int a, .int b, .int c, .int d, .int e] (mo_ov cI cZ h0 M I R) (cn (fun h' => h' = mo_ov cI cZ h0 M (upd I 0 0) (va_up R 1 (fed (R 1) a b c d e)))) := by
  refine ct_of (ws' := tb_all) rfl rfl (Nat.le_of_ble_eq_true rfl) ?_
  refine ev_aload_n d_Model_feed_0 rfl rfl ?_
  refine ev_iconst (v := 0) d_Model_feed_1 (by decide) ?_
  refine mo_put (fp_Model_99 rfl rfl) d_Model_feed_2 (Nat.le_of_ble_eq_true rfl) rfl rfl rfl ?_
  refine ev_aload_n d_Model_feed_5 rfl rfl ?_
  refine ev_iconst (v := 0) d_Model_feed_6 (by decide) ?_
  refine ev_iload_n d_Model_feed_7 rfl rfl ?_
  refine mo_Vn [.int (nI 0), .int a] [] ca_Model_feed_102 d_Model_feed_8 rfl (Nat.le_of_ble_eq_true rfl) (c_Model_readyWord hT R (a := 0) (by decide) a) (fun h1 z => ?_)
  subst z
  refine ev_aload_n d_Model_feed_11 rfl rfl ?_
  refine ev_iconst (v := 4) d_Model_feed_12 (by decide) ?_
  refine ev_iload_n d_Model_feed_13 rfl rfl ?_
  refine mo_Vn [.int (nI 4), .int b] [] ca_Model_feed_102 d_Model_feed_14 rfl (Nat.le_of_ble_eq_true rfl) (c_Model_readyWord hT _ (a := 4) (by decide) b) (fun h1 z => ?_)
  subst z
  rw [bx_uu, va_up_self]
  refine ev_aload_n d_Model_feed_17 rfl rfl ?_
  refine ev_bipush (v := 8) d_Model_feed_18 (by decide) ?_
  refine ev_iload_n d_Model_feed_20 rfl rfl ?_
  refine mo_Vn [.int (nI 8), .int c] [] ca_Model_feed_102 d_Model_feed_21 rfl (Nat.le_of_ble_eq_true rfl) (c_Model_readyWord hT _ (a := 8) (by decide) c) (fun h1 z => ?_)
  subst z
  rw [bx_uu, va_up_self]
  refine ev_aload_n d_Model_feed_24 rfl rfl ?_
  refine ev_bipush (v := 12) d_Model_feed_25 (by decide) ?_
  refine ev_iload d_Model_feed_27 rfl ?_
  refine mo_Vn [.int (nI 12), .int d] [] ca_Model_feed_102 d_Model_feed_29 rfl (Nat.le_of_ble_eq_true rfl) (c_Model_readyWord hT _ (a := 12) (by decide) d) (fun h1 z => ?_)
  subst z
  rw [bx_uu, va_up_self]
  refine ev_aload_n d_Model_feed_32 rfl rfl ?_
  refine ev_bipush (v := 16) d_Model_feed_33 (by decide) ?_
  refine ev_iload d_Model_feed_35 rfl ?_
  refine mo_Vn [.int (nI 16), .int e] [] ca_Model_feed_102 d_Model_feed_37 rfl (Nat.le_of_ble_eq_true rfl) (c_Model_readyWord hT _ (a := 16) (by decide) e) (fun h1 z => ?_)
  subst z
  rw [bx_uu, va_up_self]
  refine ev_vret d_Model_feed_40 rfl ?_
  exact ⟨rfl, rfl⟩
theorem l_Model_end2 (hT : (gl_t G)[0]? = some (cI, .int)) (R : Nat → Nat → Int32) (x : Int32) : ∀ (n k : Nat), k + n = 20 →
    ev_E G m_Model_end 71 [(0, .ref M), (1, .int x), (2, .int (nI k))] [] (mo_ov cI cZ h0 M I (va_up R 1 (zrr (R 1) k))) (cr (fun v h' => v = .int (I 3) ∧ h' = mo_ov cI cZ h0 M I (va_up R 1 (zrr (R 1) 20)))) := by
  intro n
  induction n with
  | zero =>
    intro k hk
    have hk4 : k = 20 := by omega
    subst hk4
    refine ev_iload_n d_Model_end_71 rfl rfl ?_
    refine ev_bipush (v := 20) d_Model_end_72 (by decide) ?_
    refine ev_icmp_ge (tgt := 90) d_Model_end_74 (by decide) (fun c_74 => ?_) (fun c_74 => ?_)
    · refine ev_aload_n d_Model_end_90 rfl rfl ?_
      refine mo_get (fa_Model_106 rfl rfl) d_Model_end_91 rfl ?_
      refine ev_iret d_Model_end_94 rfl ?_
      exact ⟨_, rfl, rfl, rfl⟩
    · exact absurd (by decide) c_74
  | succ n ih =>
    intro k hk
    refine ev_iload_n d_Model_end_71 rfl rfl ?_
    refine ev_bipush (v := 20) d_Model_end_72 (by decide) ?_
    refine ev_icmp_ge (tgt := 90) d_Model_end_74 (by decide) (fun c_74 => ?_) (fun c_74 => ?_)
    · exact absurd c_74 (nI_ge (a := k) (b := 20) (by omega) (by omega))
    · have hin : vp_in (nI k) (mo_len 1) := vp_in_nI (show k < 20 by omega) (by decide)
      refine ev_aload_n d_Model_end_77 rfl rfl ?_
      refine mo_get (fa_Model_7 rfl rfl) d_Model_end_78 rfl ?_
      refine ev_iload_n d_Model_end_81 rfl rfl ?_
      refine ev_iconst (v := 0) d_Model_end_82 (by decide) ?_
      refine mo_ast hT d_Model_end_83 (by decide) hin ?_
      rw [nI_clamp (by omega), va_up_self, bx_uu, zrr_s]
      refine ev_iinc d_Model_end_84 rfl (by decide) ?_
      refine ev_goto (tgt := 71) d_Model_end_87 (by decide) ?_
      refine ev_as [(0, .ref M), (1, .int x), (2, .int (nI (k + 1)))] ⟨rfl, rfl, ?_, trivial⟩ (ih (k + 1) (by omega))
      show some (Value.int (nI k + 1)) = _
      rw [nI_succ]
theorem l_Model_end1 (hT : (gl_t G)[0]? = some (cI, .int)) (R : Nat → Nat → Int32) {tl m : Nat} (hI : I 3 = nI tl) (htl : tl + m ≤ 1500) (hm : m ≤ 20) : ∀ (n k : Nat), k + n = m →
    ev_E G m_Model_end 31 [(0, .ref M), (1, .int (nI m)), (2, .int (nI k))] [] (mo_ov cI cZ h0 M I (va_up R 2 (cpr (R 2) (R 1) tl k))) (cr (fun v h' => v = .int (nI (tl + m)) ∧ h' = mo_ov cI cZ h0 M (upd I 3 (nI (tl + m))) (va_up (va_up R 2 (cpr (R 2) (R 1) tl m)) 1 (zrr (R 1) 20)))) := by
  intro n
  induction n with
  | zero =>
    intro k hk
    have hk4 : k = m := by omega
    subst hk4
    refine ev_iload_n d_Model_end_31 rfl rfl ?_
    refine ev_iload_n d_Model_end_32 rfl rfl ?_
    refine ev_icmp_ge (tgt := 59) d_Model_end_33 (by decide) (fun c_33 => ?_) (fun c_33 => ?_)
    · refine ev_aload_n d_Model_end_59 rfl rfl ?_
      refine ev_dup d_Model_end_60 rfl ?_
      refine mo_get (fa_Model_106 rfl rfl) d_Model_end_61 rfl ?_
      refine ev_iload_n d_Model_end_64 rfl rfl ?_
      refine ev_iadd d_Model_end_65 ?_
      refine mo_put (fp_Model_106 rfl rfl) d_Model_end_66 (Nat.le_of_ble_eq_true rfl) rfl rfl rfl ?_
      refine ev_iconst (v := 0) d_Model_end_69 (by decide) ?_
      refine ev_istore_n d_Model_end_70 rfl (by decide) ?_
      rw [hI, nI_add]
      refine ev_as [(0, .ref M), (1, .int (nI k)), (2, .int (nI 0))] ⟨rfl, rfl, rfl, trivial⟩ ?_
      have e := l_Model_end2 (G := G) (cZ := cZ) (h0 := h0) (M := M) (I := upd I 3 (nI (tl + k))) hT (va_up R 2 (cpr (R 2) (R 1) tl k)) (nI k) 20 0 rfl
      rw [zrr_0, up_same] at e
      exact e
    · exact absurd (nI_le (Nat.le_refl _) (by omega)) c_33
  | succ n ih =>
    intro k hk
    refine ev_iload_n d_Model_end_31 rfl rfl ?_
    refine ev_iload_n d_Model_end_32 rfl rfl ?_
    refine ev_icmp_ge (tgt := 59) d_Model_end_33 (by decide) (fun c_33 => ?_) (fun c_33 => ?_)
    · exact absurd c_33 (nI_ge (a := k) (b := m) (by omega) (by omega))
    · have hin : vp_in (nI k) (mo_len 1) := vp_in_nI (show k < 20 by omega) (by decide)
      have hin2 : vp_in (I 3 + nI k) (mo_len 2) := by rw [hI, nI_add]; exact vp_in_nI (show tl + k < 1500 by omega) (by decide)
      refine ev_aload_n d_Model_end_36 rfl rfl ?_
      refine mo_get (fa_Model_13 rfl rfl) d_Model_end_37 rfl ?_
      refine ev_aload_n d_Model_end_40 rfl rfl ?_
      refine mo_get (fa_Model_106 rfl rfl) d_Model_end_41 rfl ?_
      refine ev_iload_n d_Model_end_44 rfl rfl ?_
      refine ev_iadd d_Model_end_45 ?_
      refine ev_aload_n d_Model_end_46 rfl rfl ?_
      refine mo_get (fa_Model_7 rfl rfl) d_Model_end_47 rfl ?_
      refine ev_iload_n d_Model_end_50 rfl rfl ?_
      refine mo_ald hT d_Model_end_51 (by decide) hin ?_
      refine mo_ast hT d_Model_end_52 (by decide) hin2 ?_
      rw [hI, nI_add, nI_clamp (by omega), nI_clamp (by omega), va_up_self, bx_uu, up_ne (by decide), cpr_s]
      refine ev_iinc d_Model_end_53 rfl (by decide) ?_
      refine ev_goto (tgt := 31) d_Model_end_56 (by decide) ?_
      refine ev_as [(0, .ref M), (1, .int (nI m)), (2, .int (nI (k + 1)))] ⟨rfl, rfl, ?_, trivial⟩ (ih (k + 1) (by omega))
      show some (Value.int (nI k + 1)) = _
      rw [nI_succ]
/-- end: whether the bytes are taken -/
def okE (tl : Nat) (n : Int32) : Prop := ∃ m : Nat, m ≤ 20 ∧ tl + m ≤ 1500 ∧ n = nI m
theorem c_Model_end (hT : (gl_t G)[0]? = some (cI, .int)) (R : Nat → Nat → Int32) {tl : Nat} (hI : I 3 = nI tl) (htl : tl ≤ 1500) (x : Int32) : ct_E G m_Model_end [.ref M, .int x] (mo_ov cI cZ h0 M I R) (cr (fun v h' => (¬ okE tl x ∧ v = .int (-1) ∧ h' = mo_ov cI cZ h0 M (upd I 0 0) R) ∨ ∃ m : Nat, m ≤ 20 ∧ tl + m ≤ 1500 ∧ x = nI m ∧ v = .int (nI (tl + m)) ∧ h' = mo_ov cI cZ h0 M (upd (upd I 0 0) 3 (nI (tl + m))) (va_up (va_up R 2 (cpr (R 2) (R 1) tl m)) 1 (zrr (R 1) 20)))) := by
  refine ct_of (ws' := tb_all) rfl rfl (Nat.le_of_ble_eq_true rfl) ?_
  refine ev_aload_n d_Model_end_0 rfl rfl ?_
  refine ev_iconst (v := 0) d_Model_end_1 (by decide) ?_
  refine mo_put (fp_Model_99 rfl rfl) d_Model_end_2 (Nat.le_of_ble_eq_true rfl) rfl rfl rfl ?_
  refine ev_iload_n d_Model_end_5 rfl rfl ?_
  refine ev_if_lt (tgt := 27) d_Model_end_6 (by decide) (fun c_6 => ?_) (fun c_6 => ?_)
  · refine ev_iconst (v := (-1)) d_Model_end_27 (by decide) ?_
    refine ev_iret d_Model_end_28 rfl ?_
    refine ⟨_, rfl, Or.inl ⟨?_, rfl, rfl⟩⟩
    rintro ⟨m, h1, h2, rfl⟩
    exact nI_pos (by omega) c_6
  · obtain ⟨m, hm, rfl⟩ := nI_of c_6
    refine ev_iload_n d_Model_end_9 rfl rfl ?_
    refine ev_bipush (v := 20) d_Model_end_10 (by decide) ?_
    refine ev_icmp_gt (tgt := 27) d_Model_end_12 (by decide) (fun c_12 => ?_) (fun c_12 => ?_)
    · refine ev_iconst (v := (-1)) d_Model_end_27 (by decide) ?_
      refine ev_iret d_Model_end_28 rfl ?_
      refine ⟨_, rfl, Or.inl ⟨?_, rfl, rfl⟩⟩
      rintro ⟨m', h1, h2, e⟩
      have e2 := (nI_eq hm (by omega)).mp e
      exact absurd c_12 (nI_nlt (a := 20) (b := m) (by omega) (by omega))
    · have hm20 : m ≤ 20 := by
        rcases Nat.lt_or_ge 20 m with q | q
        · exact absurd (nI_lt q hm) c_12
        · exact q
      refine ev_aload_n d_Model_end_15 rfl rfl ?_
      refine mo_get (fa_Model_106 rfl rfl) d_Model_end_16 rfl ?_
      refine ev_iload_n d_Model_end_19 rfl rfl ?_
      refine ev_iadd d_Model_end_20 ?_
      refine ev_sipush (v := 1500) d_Model_end_21 (by decide) ?_
      have e3 : upd I 0 0 3 + nI m = nI (tl + m) := by
        show I 3 + nI m = _
        rw [hI, nI_add]
      rw [e3]
      refine ev_icmp_le (tgt := 29) d_Model_end_24 (by decide) (fun c_24 => ?_) (fun c_24 => ?_)
      · have hle : tl + m ≤ 1500 := (nI_leI (by omega) (by omega)).mp c_24
        refine ev_iconst (v := 0) d_Model_end_29 (by decide) ?_
        refine ev_istore_n d_Model_end_30 rfl (by decide) ?_
        have e := l_Model_end1 (G := G) (cZ := cZ) (h0 := h0) (M := M) (I := upd I 0 0) hT R (tl := tl) (m := m) hI hle hm20 m 0 (by omega)
        rw [cpr_0, up_same] at e
        refine ev_as [(0, .ref M), (1, .int (nI m)), (2, .int (nI 0))] ⟨rfl, rfl, rfl, trivial⟩ (ev_to e ?_)
        rintro o h' ⟨v, rfl, rfl, rfl⟩
        exact ⟨_, rfl, Or.inr ⟨m, hm20, hle, rfl, rfl, rfl⟩⟩
      · refine ev_iconst (v := (-1)) d_Model_end_27 (by decide) ?_
        refine ev_iret d_Model_end_28 rfl ?_
        refine ⟨_, rfl, Or.inl ⟨?_, rfl, rfl⟩⟩
        rintro ⟨m', h1, h2, e⟩
        have e2 := (nI_eq hm (by omega)).mp e
        exact c_24 (nI_le (a := tl + m) (b := 1500) (by omega) (by omega))
end TAPE2
