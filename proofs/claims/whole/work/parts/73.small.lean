/-! the reference: type: a word in small letters -/
section SMALLW
variable {G : gl_G} {cI cZ : ClassId} {h0 : hp_T} {M : Nat} {I : Nat → Int32} {W : Wds} {P : Pts}
theorem l_Model_makeSmall (hT : (gl_t G)[0]? = some (cI, .int)) {v : Nat} (hv : v < 7) {i e : Nat} {ml : Nat → Nat} (hi : i < 1501) (he : e ≤ 1600) : ∀ (t : List Int32) (k : Nat) (cur : List Int32) (m : Nat) (R : Nat → Nat → Int32), k + t.length = e → hol (R 12) k t → R 11 i = nI e → pIn P (upN ml (ar v) m) v cur R → m + t.length ≤ 5900 →
    ev_E G m_Model_makeSmall 12 [(0, .ref M), (1, .int (nI v)), (2, .int (nI i)), (3, .int (nI k))] [] (mo_ov cI cZ h0 M I R) (cn (fun h' => ∃ R', h' = mo_ov cI cZ h0 M I R' ∧ pOk (va_up P v (P v ++ [cur ++ t.map sp_small])) (upN ml (ar v) (m + t.length)) R' ∧ sm [13, 14, 15, 16, 17] R R')) := by
  intro t
  induction t with
  | nil =>
    intro k cur m R hk hh h11 hP hm
    have hin : vp_in (nI i) (mo_len 11) := vp_in_nI (show i < 1501 by omega) (by decide)
    refine ev_iload_n d_Model_makeSmall_12 rfl rfl ?_
    refine ev_aload_n d_Model_makeSmall_13 rfl rfl ?_
    refine mo_get (fa_Model_40 rfl rfl) d_Model_makeSmall_14 rfl ?_
    refine ev_iload_n d_Model_makeSmall_17 rfl rfl ?_
    refine mo_ald hT d_Model_makeSmall_18 (by decide) hin ?_
    rw [nI_clamp (by omega), h11]
    refine ev_icmp_ge (tgt := 42) d_Model_makeSmall_19 (by decide) (fun c_19 => ?_) (fun c_19 => ?_)
    · refine ev_aload_n d_Model_makeSmall_42 rfl rfl ?_
      refine ev_iload_n d_Model_makeSmall_43 rfl rfl ?_
      refine mo_Vn [.int (nI v)] [] ca_Model_makeSmall_210 d_Model_makeSmall_44 rfl (Nat.le_of_ble_eq_true rfl) (c_Model_endPart hT hv hP) (fun h1 z => ?_)
      obtain ⟨R2, rfl, q1, q2⟩ := z
      refine ev_vret d_Model_makeSmall_47 rfl ?_
      rw [List.map_nil, List.append_nil]
      exact ⟨rfl, R2, rfl, q1, q2⟩
    · exact absurd (nI_le (a := e) (b := k) (by simp at hk; omega) (by simp at hk; omega)) c_19
  | cons c t ih =>
    intro k cur m R hk hh h11 hP hm
    simp only [List.length_cons] at hk hm
    obtain ⟨hx, ht⟩ := hol_cons hh
    have hin : vp_in (nI i) (mo_len 11) := vp_in_nI (show i < 1501 by omega) (by decide)
    have hin2 : vp_in (nI k) (mo_len 12) := vp_in_nI (show k < 1600 by omega) (by decide)
    refine ev_iload_n d_Model_makeSmall_12 rfl rfl ?_
    refine ev_aload_n d_Model_makeSmall_13 rfl rfl ?_
    refine mo_get (fa_Model_40 rfl rfl) d_Model_makeSmall_14 rfl ?_
    refine ev_iload_n d_Model_makeSmall_17 rfl rfl ?_
    refine mo_ald hT d_Model_makeSmall_18 (by decide) hin ?_
    rw [nI_clamp (by omega), h11]
    refine ev_icmp_ge (tgt := 42) d_Model_makeSmall_19 (by decide) (fun c_19 => ?_) (fun c_19 => ?_)
    · exact absurd c_19 (nI_ge (a := k) (b := e) (by omega) (by omega))
    · refine ev_aload_n d_Model_makeSmall_22 rfl rfl ?_
      refine ev_iload_n d_Model_makeSmall_23 rfl rfl ?_
      refine ev_aload_n d_Model_makeSmall_24 rfl rfl ?_
      refine mo_get (fa_Model_43 rfl rfl) d_Model_makeSmall_25 rfl ?_
      refine ev_iload_n d_Model_makeSmall_28 rfl rfl ?_
      refine mo_ald hT d_Model_makeSmall_29 (by decide) hin2 ?_
      rw [nI_clamp (by omega), hx]
      refine ev_Sv [.int c] [.int (nI v), .ref M] ca_Model_makeSmall_133 d_Model_makeSmall_30 rfl (Nat.le_of_ble_eq_true rfl) (c_Model_small c) ?_
      refine mo_Vn [.int (nI v), .int (sp_small c)] [] ca_Model_makeSmall_191 d_Model_makeSmall_33 rfl (Nat.le_of_ble_eq_true rfl) (c_Model_add hT hv hP (by rw [upN_at]; omega) (sp_small c)) (fun h1 z => ?_)
      obtain ⟨R2, rfl, q1, q2⟩ := z
      rw [upN_at, upN_same] at q1
      refine ev_iinc d_Model_makeSmall_36 rfl (by decide) ?_
      refine ev_goto (tgt := 12) d_Model_makeSmall_39 (by decide) ?_
      rw [show nI k + Int32.ofInt 1 = nI (k + 1) from nI_1 k]
      refine ev_to (ih (k + 1) (cur ++ [sp_small c]) (m + 1) R2 (by omega) (by rw [q2 12 (by decide)]; exact ht) (by rw [q2 11 (by decide)]; exact h11) q1 (by omega)) ?_
      rintro o h' ⟨rfl, R3, rfl, s1, s2⟩
      rw [List.append_assoc, show m + 1 + t.length = m + (t.length + 1) by omega] at s1
      exact ⟨rfl, R3, rfl, s1, sm_tr q2 s2⟩
theorem c_Model_makeSmall (hT : (gl_t G)[0]? = some (cI, .int)) {v : Nat} (hv : v < 7) {R : Nat → Nat → Int32} {ml : Nat → Nat} (hW : wOk W I R) (hl : W.length ≤ 1501) (hb : (wB W).length ≤ 1600) {i : Nat} {w : Int32 × Int32 × List Int32} (hi : W[i]? = some w) (hP : pOk P ml R) (hn : (P v).length < 1000) (hm : ml (ar v) + w.2.2.length ≤ 5900) : ct_E G m_Model_makeSmall [.ref M, .int (nI v), .int (nI i)] (mo_ov cI cZ h0 M I R) (cn (fun h' => ∃ R', h' = mo_ov cI cZ h0 M I R' ∧ pOk (va_up P v (P v ++ [w.2.2.map sp_small])) (upN ml (ar v) (ml (ar v) + w.2.2.length)) R' ∧ sm [13, 14, 15, 16, 17] R R')) := by
  have hlt := (List.getElem?_eq_some_iff.mp hi).1
  obtain ⟨o, r10, r11, ho, hh⟩ := wds_at hW hi
  have hin : vp_in (nI i) (mo_len 10) := vp_in_nI (show i < 1501 by omega) (by decide)
  refine ct_of (ws' := tb_all) rfl rfl (Nat.le_of_ble_eq_true rfl) ?_
  refine ev_aload_n d_Model_makeSmall_0 rfl rfl ?_
  refine ev_iload_n d_Model_makeSmall_1 rfl rfl ?_
  refine mo_Vn [.int (nI v)] [] ca_Model_makeSmall_204 d_Model_makeSmall_2 rfl (Nat.le_of_ble_eq_true rfl) (c_Model_beginPart hT hP hv hn) (fun h1 z => ?_)
  obtain ⟨R2, rfl, q1, q2⟩ := z
  refine ev_aload_n d_Model_makeSmall_5 rfl rfl ?_
  refine mo_get (fa_Model_37 rfl rfl) d_Model_makeSmall_6 rfl ?_
  refine ev_iload_n d_Model_makeSmall_9 rfl rfl ?_
  refine mo_ald hT d_Model_makeSmall_10 (by decide) hin ?_
  rw [nI_clamp (by omega), q2 10 (by decide), r10]
  refine ev_istore_n d_Model_makeSmall_11 rfl (by decide) ?_
  refine ev_to (l_Model_makeSmall (ml := ml) hT hv (by omega) (by omega) w.2.2 o [] (ml (ar v)) R2 rfl (by rw [q2 12 (by decide)]; exact hh) (by rw [q2 11 (by decide)]; exact r11) (by rw [upN_id rfl]; exact q1) hm) ?_
  rintro o h' ⟨rfl, R3, rfl, s1, s2⟩
  exact ⟨rfl, R3, rfl, s1, sm_tr q2 s2⟩
end SMALLW
