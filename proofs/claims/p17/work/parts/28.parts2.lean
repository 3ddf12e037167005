/-! the reference: addWord, forget, length, at, group, parameterByte -/
theorem upN_same (f : Nat → Nat) (k v w : Nat) : upN (upN f k v) k w = upN f k w := by
  funext j
  unfold upN
  by_cases h : j = k
  · rw [if_pos h, if_pos h]
  · rw [if_neg h, if_neg h, if_neg h]
theorem upN_at (f : Nat → Nat) (k v : Nat) : upN f k v k = v := if_pos rfl
theorem upN_ne {f : Nat → Nat} {k j v : Nat} (h : j ≠ k) : upN f k v j = f j := if_neg h
theorem upN_id {f : Nat → Nat} {k v : Nat} (h : f k = v) : upN f k v = f := by
  funext j
  unfold upN
  by_cases hj : j = k
  · rw [if_pos hj, hj, h]
  · rw [if_neg hj]
theorem wds_at {W : Wds} {I : Nat → Int32} {R : Nat → Nat → Int32} (hW : wOk W I R) {i : Nat} {w : Int32 × Int32 × List Int32} (hi : W[i]? = some w) : ∃ o, R 10 i = nI o ∧ R 11 i = nI (o + w.2.2.length) ∧ o + w.2.2.length ≤ (wB W).length ∧ hol (R 12) o w.2.2 := by
  have hr := hW.2.2.2 i w hi
  have e : wB W = wB (W.take i) ++ (w.2.2 ++ wB (W.drop (i + 1))) := by
    have e1 : W = W.take i ++ (w :: W.drop (i + 1)) := by
      rw [← (List.getElem?_eq_some_iff.mp hi).2]
      rw [List.getElem_cons_drop, List.take_append_drop]
    have e2 := congrArg wB e1
    rw [e2]
    simp [wB]
  have h1 := hW.2.2.1
  rw [e] at h1
  have l := congrArg List.length e
  simp only [List.length_append] at l
  have h2 := hol_right h1
  rw [Nat.zero_add] at h2
  exact ⟨_, hr.2.2.1, hr.2.2.2, by omega, hol_left h2⟩
/-- a part that was made -/
def prt (P : Pts) (w k : Int32) : Option (List Int32) := if w < 0 ∨ 6 < w ∨ k < 0 then none else (P w.toNatClampNeg)[k.toNatClampNeg]?
def hdL (o : Option (List Int32)) : Int32 := oL o
section PARTS2
variable {G : gl_G} {cI cZ : ClassId} {h0 : hp_T} {M : Nat} {I : Nat → Int32} {W : Wds} {P : Pts}
theorem l_Model_addWord (hT : (gl_t G)[0]? = some (cI, .int)) {v : Nat} (hv : v < 7) {i e : Nat} {ml : Nat → Nat} (hi : i < 1501) (he : e ≤ 1600) : ∀ (t : List Int32) (k : Nat) (cur : List Int32) (m : Nat) (R : Nat → Nat → Int32), k + t.length = e → hol (R 12) k t → R 11 i = nI e → pIn P (upN ml (ar v) m) v cur R → m + t.length ≤ 5900 →
    ev_E G m_Model_addWord 7 [(0, .ref M), (1, .int (nI v)), (2, .int (nI i)), (3, .int (nI k))] [] (mo_ov cI cZ h0 M I R) (cn (fun h' => ∃ R', h' = mo_ov cI cZ h0 M I R' ∧ pIn P (upN ml (ar v) (m + t.length)) v (cur ++ t) R' ∧ sm [13, 14, 15, 16, 17] R R')) := by
  intro t
  induction t with
  | nil =>
    intro k cur m R hk hh h11 hP hm
    have hin : vp_in (nI i) (mo_len 11) := vp_in_nI (show i < 1501 by omega) (by decide)
    refine ev_iload_n d_Model_addWord_7 rfl rfl ?_
    refine ev_aload_n d_Model_addWord_8 rfl rfl ?_
    refine mo_get (fa_Model_40 rfl rfl) d_Model_addWord_9 rfl ?_
    refine ev_iload_n d_Model_addWord_12 rfl rfl ?_
    refine mo_ald hT d_Model_addWord_13 (by decide) hin ?_
    rw [nI_clamp (by omega), h11]
    refine ev_icmp_ge (tgt := 34) d_Model_addWord_14 (by decide) (fun c_14 => ?_) (fun c_14 => ?_)
    · refine ev_vret d_Model_addWord_34 rfl ?_
      rw [List.append_nil]
      exact ⟨rfl, R, rfl, hP, sm_rf _ _⟩
    · exact absurd (nI_le (a := e) (b := k) (by simp at hk; omega) (by simp at hk; omega)) c_14
  | cons c t ih =>
    intro k cur m R hk hh h11 hP hm
    simp only [List.length_cons] at hk hm
    obtain ⟨hx, ht⟩ := hol_cons hh
    have hin : vp_in (nI i) (mo_len 11) := vp_in_nI (show i < 1501 by omega) (by decide)
    have hin2 : vp_in (nI k) (mo_len 12) := vp_in_nI (show k < 1600 by omega) (by decide)
    refine ev_iload_n d_Model_addWord_7 rfl rfl ?_
    refine ev_aload_n d_Model_addWord_8 rfl rfl ?_
    refine mo_get (fa_Model_40 rfl rfl) d_Model_addWord_9 rfl ?_
    refine ev_iload_n d_Model_addWord_12 rfl rfl ?_
    refine mo_ald hT d_Model_addWord_13 (by decide) hin ?_
    rw [nI_clamp (by omega), h11]
    refine ev_icmp_ge (tgt := 34) d_Model_addWord_14 (by decide) (fun c_14 => ?_) (fun c_14 => ?_)
    · exact absurd c_14 (nI_ge (a := k) (b := e) (by omega) (by omega))
    · refine ev_aload_n d_Model_addWord_17 rfl rfl ?_
      refine ev_iload_n d_Model_addWord_18 rfl rfl ?_
      refine ev_aload_n d_Model_addWord_19 rfl rfl ?_
      refine mo_get (fa_Model_43 rfl rfl) d_Model_addWord_20 rfl ?_
      refine ev_iload_n d_Model_addWord_23 rfl rfl ?_
      refine mo_ald hT d_Model_addWord_24 (by decide) hin2 ?_
      rw [nI_clamp (by omega), hx]
      refine mo_Vn [.int (nI v), .int c] [] ca_Model_addWord_191 d_Model_addWord_25 rfl (Nat.le_of_ble_eq_true rfl) (c_Model_add hT hv hP (by rw [upN_at]; omega) c) (fun h1 z => ?_)
      obtain ⟨R2, rfl, q1, q2⟩ := z
      rw [upN_at, upN_same] at q1
      refine ev_iinc d_Model_addWord_28 rfl (by decide) ?_
      refine ev_goto (tgt := 7) d_Model_addWord_31 (by decide) ?_
      refine ev_as [(0, .ref M), (1, .int (nI v)), (2, .int (nI i)), (3, .int (nI (k + 1)))] ⟨rfl, rfl, rfl, ?_, trivial⟩ ?_
      · show some (Value.int (nI k + 1)) = _
        rw [nI_succ]
      · refine ev_to (ih (k + 1) (cur ++ [c]) (m + 1) R2 (by omega) (by rw [q2 12 (by decide)]; exact ht) (by rw [q2 11 (by decide)]; exact h11) q1 (by omega)) ?_
        rintro o h' ⟨rfl, R3, rfl, s1, s2⟩
        rw [List.append_assoc, show m + 1 + t.length = m + (t.length + 1) by omega] at s1
        exact ⟨rfl, R3, rfl, s1, sm_tr q2 s2⟩
theorem c_Model_addWord (hT : (gl_t G)[0]? = some (cI, .int)) {v : Nat} (hv : v < 7) {R : Nat → Nat → Int32} {ml : Nat → Nat} (hW : wOk W I R) (hl : W.length ≤ 1501) (hb : (wB W).length ≤ 1600) {i : Nat} {w : Int32 × Int32 × List Int32} (hi : W[i]? = some w) {cur : List Int32} (hP : pIn P ml v cur R) (hm : ml (ar v) + w.2.2.length ≤ 5900) : ct_E G m_Model_addWord [.ref M, .int (nI v), .int (nI i)] (mo_ov cI cZ h0 M I R) (cn (fun h' => ∃ R', h' = mo_ov cI cZ h0 M I R' ∧ pIn P (upN ml (ar v) (ml (ar v) + w.2.2.length)) v (cur ++ w.2.2) R' ∧ sm [13, 14, 15, 16, 17] R R')) := by
  have hlt := (List.getElem?_eq_some_iff.mp hi).1
  obtain ⟨o, r10, r11, ho, hh⟩ := wds_at hW hi
  have hin : vp_in (nI i) (mo_len 10) := vp_in_nI (show i < 1501 by omega) (by decide)
  refine ct_of (ws' := tb_all) rfl rfl (Nat.le_of_ble_eq_true rfl) ?_
  refine ev_aload_n d_Model_addWord_0 rfl rfl ?_
  refine mo_get (fa_Model_37 rfl rfl) d_Model_addWord_1 rfl ?_
  refine ev_iload_n d_Model_addWord_4 rfl rfl ?_
  refine mo_ald hT d_Model_addWord_5 (by decide) hin ?_
  rw [nI_clamp (by omega), r10]
  refine ev_istore_n d_Model_addWord_6 rfl (by decide) ?_
  refine ev_as [(0, .ref M), (1, .int (nI v)), (2, .int (nI i)), (3, .int (nI o))] ⟨rfl, rfl, rfl, rfl, trivial⟩ ?_
  refine l_Model_addWord (ml := ml) hT hv (by omega) (by omega) w.2.2 o cur (ml (ar v)) R rfl hh r11 (by rw [upN_id rfl]; exact hP) hm
theorem l_Model_forget (hT : (gl_t G)[0]? = some (cI, .int)) {R : Nat → Nat → Int32} {x : Int32} {l : Nat} (hl : l < 7) {a : Nat} (ha : a < 3) : ∀ (n k : Nat) (R : Nat → Nat → Int32), k + n = l + 1 →
    ev_E G m_Model_forget 3 [(0, .ref M), (1, .int x), (2, .int (nI l)), (3, .int (nI a)), (4, .int (nI k))] [] (mo_ov cI cZ h0 M I R) (cn (fun h' => ∃ R', h' = mo_ov cI cZ h0 M I R' ∧ sm [14, 15] R R' ∧ R' 14 = upd (R 14) a 0 ∧ ∀ j, R' 15 j = if k ≤ j ∧ j ≤ l then 0 else R 15 j)) := by
  intro n
  induction n with
  | zero =>
    intro k R hk
    have hin : vp_in (nI a) (mo_len 14) := vp_in_nI (show a < 3 by omega) (by decide)
    refine ev_iload d_Model_forget_3 rfl ?_
    refine ev_iload_n d_Model_forget_5 rfl rfl ?_
    refine ev_icmp_gt (tgt := 23) d_Model_forget_6 (by decide) (fun c_6 => ?_) (fun c_6 => ?_)
    · refine ev_aload_n d_Model_forget_23 rfl rfl ?_
      refine mo_get (fa_Model_49 rfl rfl) d_Model_forget_24 rfl ?_
      refine ev_iload_n d_Model_forget_27 rfl rfl ?_
      refine ev_iconst (v := 0) d_Model_forget_28 (by decide) ?_
      refine mo_ast hT d_Model_forget_29 (by decide) hin ?_
      refine ev_vret d_Model_forget_30 rfl ?_
      rw [nI_clamp (by omega)]
      refine ⟨rfl, _, rfl, sm_up (by decide), va_up_self _ _ _, fun j => ?_⟩
      rw [up_ne (by decide), if_neg (by omega)]
    · exact absurd (nI_lt (a := l) (b := k) (by omega) (by omega)) c_6
  | succ n ih =>
    intro k R hk
    have hin : vp_in (nI k) (mo_len 15) := vp_in_nI (show k < 7 by omega) (by decide)
    refine ev_iload d_Model_forget_3 rfl ?_
    refine ev_iload_n d_Model_forget_5 rfl rfl ?_
    refine ev_icmp_gt (tgt := 23) d_Model_forget_6 (by decide) (fun c_6 => ?_) (fun c_6 => ?_)
    · exact absurd c_6 (nI_nlt (a := l) (b := k) (by omega) (by omega))
    · refine ev_aload_n d_Model_forget_9 rfl rfl ?_
      refine mo_get (fa_Model_52 rfl rfl) d_Model_forget_10 rfl ?_
      refine ev_iload d_Model_forget_13 rfl ?_
      refine ev_iconst (v := 0) d_Model_forget_15 (by decide) ?_
      refine mo_ast hT d_Model_forget_16 (by decide) hin ?_
      refine ev_iinc d_Model_forget_17 rfl (by decide) ?_
      refine ev_goto (tgt := 3) d_Model_forget_20 (by decide) ?_
      rw [nI_clamp (by omega)]
      refine ev_as [(0, .ref M), (1, .int x), (2, .int (nI l)), (3, .int (nI a)), (4, .int (nI (k + 1)))] ⟨rfl, rfl, rfl, rfl, ?_, trivial⟩ ?_
      · show some (Value.int (nI k + 1)) = _
        rw [nI_succ]
      · refine ev_to (ih (k + 1) (va_up R 15 (upd (R 15) k 0)) (by omega)) ?_
        rintro o h' ⟨rfl, R2, rfl, q1, q2, q3⟩
        refine ⟨rfl, R2, rfl, sm_tr (sm_up (by decide)) q1, q2, fun j => ?_⟩
        rw [q3 j, va_up_self]
        by_cases hj : j = k
        · subst hj
          rw [if_neg (by omega), upd_at, if_pos (by omega)]
        · rw [upd_ne hj]
          by_cases h : k + 1 ≤ j ∧ j ≤ l
          · rw [if_pos h, if_pos (by omega)]
          · rw [if_neg h, if_neg (by omega)]
theorem c_Model_forget (hT : (gl_t G)[0]? = some (cI, .int)) {R : Nat → Nat → Int32} {ml : Nat → Nat} (hP : pOk P ml R) {f l a : Nat} (hfl : f ≤ l) (hl : l < 7) (ha : a < 3) (hall : ∀ w, w < 7 → ((f ≤ w ∧ w ≤ l) ↔ ar w = a)) : ct_E G m_Model_forget [.ref M, .int (nI f), .int (nI l), .int (nI a)] (mo_ov cI cZ h0 M I R) (cn (fun h' => ∃ R', h' = mo_ov cI cZ h0 M I R' ∧ pOk (fun w => if f ≤ w ∧ w ≤ l then [] else P w) (upN ml a 0) R' ∧ sm [13, 14, 15, 16, 17] R R')) := by
  refine ct_of (ws' := tb_all) rfl rfl (Nat.le_of_ble_eq_true rfl) ?_
  refine ev_iload_n d_Model_forget_0 rfl rfl ?_
  refine ev_istore d_Model_forget_1 (by decide) ?_
  refine ev_as [(0, .ref M), (1, .int (nI f)), (2, .int (nI l)), (3, .int (nI a)), (4, .int (nI f))] ⟨rfl, rfl, rfl, rfl, rfl, trivial⟩ ?_
  refine ev_to (l_Model_forget (R := R) hT hl ha (l + 1 - f) f R (by omega)) ?_
  rintro o h' ⟨rfl, R2, rfl, q1, q2, q3⟩
  refine ⟨rfl, R2, rfl, ⟨fun x hx => ?_, fun w hw => ?_⟩, sm_mono q1 (by decide)⟩
  · rw [q2]
    unfold upN
    by_cases h : x = a
    · rw [h, upd_at, if_pos rfl]; exact ⟨rfl, by omega⟩
    · rw [upd_ne h, if_neg h]; exact hP.1 x hx
  · show R2 15 w = nI (if f ≤ w ∧ w ≤ l then [] else P w : List (List Int32)).length ∧ (if f ≤ w ∧ w ≤ l then [] else P w : List (List Int32)).length ≤ 1000 ∧ _
    rw [q3]
    by_cases h : f ≤ w ∧ w ≤ l
    · rw [if_pos h, if_pos h]
      exact ⟨rfl, by simp, fun k l hk => by simp only [if_pos h] at hk; simp at hk⟩
    · rw [if_neg h, if_neg h]
      have hne : ar w ≠ a := fun z => h ((hall w hw).mpr z)
      refine ⟨(hP.2 w hw).1, (hP.2 w hw).2.1, fun k l hk => ?_⟩
      simp only [if_neg h] at hk
      obtain ⟨p1, b, p2, p3, p4, p5⟩ := (hP.2 w hw).2.2 k l hk
      refine ⟨by rw [q1 17 (by decide)]; exact p1, b, by rw [q1 16 (by decide)]; exact p2, p3, by rw [upN_ne hne]; exact p4, by rw [q1 13 (by decide)]; exact p5⟩
theorem c_Model_length (hT : (gl_t G)[0]? = some (cI, .int)) {R : Nat → Nat → Int32} {ml : Nat → Nat} (hP : pOk P ml R) (w k : Int32) : ct_E G m_Model_length [.ref M, .int w, .int k] (mo_ov cI cZ h0 M I R) (cr (fun v h' => v = .int (oL (prt P w k)) ∧ h' = mo_ov cI cZ h0 M (upd I 0 0) R)) := by
  refine ct_of (ws' := tb_all) rfl rfl (Nat.le_of_ble_eq_true rfl) ?_
  have no : prt P w k = none → ev_E G m_Model_length 29 [(0, .ref M), (1, .int w), (2, .int k)] [] (mo_ov cI cZ h0 M (upd I 0 0) R) (cr (fun v h' => v = .int (oL (prt P w k)) ∧ h' = mo_ov cI cZ h0 M (upd I 0 0) R)) := by
    intro e
    refine ev_iconst (v := (-1)) d_Model_length_29 (by decide) ?_
    refine ev_goto (tgt := 45) d_Model_length_30 (by decide) ?_
    refine ev_iret d_Model_length_45 rfl ?_
    rw [e]
    exact ⟨_, rfl, rfl, rfl⟩
  refine ev_aload_n d_Model_length_0 rfl rfl ?_
  refine ev_iconst (v := 0) d_Model_length_1 (by decide) ?_
  refine mo_put (fp_Model_99 rfl rfl) d_Model_length_2 (Nat.le_of_ble_eq_true rfl) rfl rfl rfl ?_
  refine ev_iload_n d_Model_length_5 rfl rfl ?_
  refine ev_if_lt (tgt := 29) d_Model_length_6 (by decide) (fun c_6 => ?_) (fun c_6 => ?_)
  · exact no (by unfold prt; rw [if_pos (Or.inl c_6)])
  refine ev_iload_n d_Model_length_9 rfl rfl ?_
  refine ev_bipush (v := 6) d_Model_length_10 (by decide) ?_
  refine ev_icmp_gt (tgt := 29) d_Model_length_12 (by decide) (fun c_12 => ?_) (fun c_12 => ?_)
  · exact no (by unfold prt; rw [if_pos (Or.inr (Or.inl c_12))])
  refine ev_iload_n d_Model_length_15 rfl rfl ?_
  refine ev_if_lt (tgt := 29) d_Model_length_16 (by decide) (fun c_16 => ?_) (fun c_16 => ?_)
  · exact no (by unfold prt; rw [if_pos (Or.inr (Or.inr c_16))])
  obtain ⟨a, ha, rfl⟩ := nI_of c_6
  obtain ⟨b, hb, rfl⟩ := nI_of c_16
  have ha6 : a ≤ 6 := by
    rcases Nat.lt_or_ge 6 a with q | q
    · exact absurd (nI_lt q ha) c_12
    · exact q
  have hpa := hP.2 a (by omega)
  have e : prt P (nI a) (nI b) = (P a)[b]? := by
    unfold prt
    rw [if_neg (fun z => z.elim c_6 (fun z => z.elim c_12 c_16)), nI_clamp ha, nI_clamp hb]
  have hin : vp_in (nI a) (mo_len 15) := vp_in_nI (show a < 7 by omega) (by decide)
  refine ev_iload_n d_Model_length_19 rfl rfl ?_
  refine ev_aload_n d_Model_length_20 rfl rfl ?_
  refine mo_get (fa_Model_52 rfl rfl) d_Model_length_21 rfl ?_
  refine ev_iload_n d_Model_length_24 rfl rfl ?_
  refine mo_ald hT d_Model_length_25 (by decide) hin ?_
  rw [nI_clamp ha, hpa.1]
  refine ev_icmp_lt (tgt := 33) d_Model_length_26 (by decide) (fun c_26 => ?_) (fun c_26 => ?_)
  · have hlt : b < (P a).length := (nI_ltI hb (by omega)).mp c_26
    have hq : (P a)[b]? = some (P a)[b] := List.getElem?_eq_getElem hlt
    obtain ⟨p1, -⟩ := hpa.2.2 b _ hq
    have hin2 : vp_in (nI (1000 * a + b)) (mo_len 17) := vp_in_nI (show _ < 7000 by omega) (by decide)
    refine ev_aload_n d_Model_length_33 rfl rfl ?_
    refine mo_get (fa_Model_58 rfl rfl) d_Model_length_34 rfl ?_
    refine ev_sipush (v := 1000) d_Model_length_37 (by decide) ?_
    refine ev_iload_n d_Model_length_40 rfl rfl ?_
    refine ev_imul d_Model_length_41 ?_
    refine ev_iload_n d_Model_length_42 rfl rfl ?_
    refine ev_iadd d_Model_length_43 ?_
    rw [show (1000 : Int32) * nI a = nI (1000 * a) from pk_mul 1000 a, nI_add]
    refine mo_ald hT d_Model_length_44 (by decide) hin2 ?_
    refine ev_iret d_Model_length_45 rfl ?_
    rw [nI_clamp (by omega), p1, e, hq]
    exact ⟨_, rfl, rfl, rfl⟩
  · refine no ?_
    rw [e]
    exact List.getElem?_eq_none (by
      rcases Nat.lt_or_ge b (P a).length with q | q
      · exact absurd (nI_lt q (by omega)) c_26
      · exact q)
theorem c_Model_at (hT : (gl_t G)[0]? = some (cI, .int)) {R : Nat → Nat → Int32} {ml : Nat → Nat} (hP : pOk P ml R) (w k i : Int32) : ct_E G m_Model_at [.ref M, .int w, .int k, .int i] (mo_ov cI cZ h0 M I R) (cr (fun v h' => v = .int (oB (prt P w k) i) ∧ h' = mo_ov cI cZ h0 M (upd I 0 0) R)) := by
  refine ct_of (ws' := tb_all) rfl rfl (Nat.le_of_ble_eq_true rfl) ?_
  refine ev_aload_n d_Model_at_0 rfl rfl ?_
  refine ev_iload_n d_Model_at_1 rfl rfl ?_
  refine ev_iload_n d_Model_at_2 rfl rfl ?_
  refine mo_Vr [.int w, .int k] [] ca_Model_at_194 d_Model_at_3 rfl (Nat.le_of_ble_eq_true rfl) (c_Model_length hT hP w k) (fun v h1 z => ?_)
  obtain ⟨rfl, rfl⟩ := z
  refine ev_istore d_Model_at_6 (by decide) ?_
  refine ev_iload_n d_Model_at_8 rfl rfl ?_
  have hsome : ∀ l, prt P w k = some l → ∃ a b : Nat, w = nI a ∧ k = nI b ∧ a < 7 ∧ b < 1000 ∧ (P a)[b]? = some l := by
    intro l hl
    unfold prt at hl
    split at hl
    · cases hl
    · rename_i z
      simp only [not_or] at z
      obtain ⟨a, ha, rfl⟩ := nI_of z.1
      obtain ⟨b, hb, rfl⟩ := nI_of z.2.2
      rw [nI_clamp ha, nI_clamp hb] at hl
      have ha6 : a ≤ 6 := by
        rcases Nat.lt_or_ge 6 a with q | q
        · exact absurd (nI_lt q ha) z.2.1
        · exact q
      have h1 := (List.getElem?_eq_some_iff.mp hl).1
      have h2 := (hP.2 a (by omega)).2.1
      exact ⟨a, b, rfl, rfl, by omega, by omega, hl⟩
  refine ev_if_lt (tgt := 18) d_Model_at_9 (by decide) (fun c_9 => ?_) (fun c_9 => ?_)
  · refine ev_iconst (v := (-1)) d_Model_at_18 (by decide) ?_
    refine ev_goto (tgt := 41) d_Model_at_19 (by decide) ?_
    refine ev_iret d_Model_at_41 rfl ?_
    refine ⟨_, rfl, ?_, rfl⟩
    unfold oB
    split
    · rfl
    · rw [rg_neg c_9]
  · refine ev_iload_n d_Model_at_12 rfl rfl ?_
    refine ev_iload d_Model_at_13 rfl ?_
    refine ev_icmp_lt (tgt := 22) d_Model_at_15 (by decide) (fun c_15 => ?_) (fun c_15 => ?_)
    · cases hl : prt P w k with
      | none =>
        rw [hl] at c_15
        exact absurd c_15 (fun z => c_9 (Int32.lt_trans z (by decide)))
      | some l =>
        obtain ⟨a, b, rfl, rfl, ha, hb, hq⟩ := hsome l hl
        obtain ⟨p1, o, p2, p3, p4, p5⟩ := (hP.2 a ha).2.2 b l hq
        have har := ar_le a
        have hml := hP.1 (ar a) (by omega)
        rw [hl] at c_15
        obtain ⟨j, hj, rfl⟩ := nI_of c_9
        have hjl : j < l.length := (nI_ltI hj (by omega)).mp c_15
        have hin16 : vp_in (nI (1000 * a + b)) (mo_len 16) := vp_in_nI (show _ < 7000 by omega) (by decide)
        have hin13 : vp_in (nI (o + j)) (mo_len 13) := vp_in_nI (show _ < 20000 by omega) (by decide)
        refine ev_aload_n d_Model_at_22 rfl rfl ?_
        refine mo_get (fa_Model_46 rfl rfl) d_Model_at_23 rfl ?_
        refine ev_aload_n d_Model_at_26 rfl rfl ?_
        refine mo_get (fa_Model_55 rfl rfl) d_Model_at_27 rfl ?_
        refine ev_sipush (v := 1000) d_Model_at_30 (by decide) ?_
        refine ev_iload_n d_Model_at_33 rfl rfl ?_
        refine ev_imul d_Model_at_34 ?_
        refine ev_iload_n d_Model_at_35 rfl rfl ?_
        refine ev_iadd d_Model_at_36 ?_
        rw [show (1000 : Int32) * nI a = nI (1000 * a) from pk_mul 1000 a, nI_add]
        refine mo_ald hT d_Model_at_37 (by decide) hin16 ?_
        refine ev_iload_n d_Model_at_38 rfl rfl ?_
        refine ev_iadd d_Model_at_39 ?_
        rw [nI_clamp (by omega), p2, nI_add]
        refine mo_ald hT d_Model_at_40 (by decide) hin13 ?_
        refine ev_iret d_Model_at_41 rfl ?_
        rw [nI_clamp (by omega)]
        refine ⟨_, rfl, ?_, rfl⟩
        show _ = Value.int (rg l (nI j))
        rw [rg_nat hj, List.getD_eq_getElem?_getD, hol_at p5 hjl]
        rfl
    · refine ev_iconst (v := (-1)) d_Model_at_18 (by decide) ?_
      refine ev_goto (tgt := 41) d_Model_at_19 (by decide) ?_
      refine ev_iret d_Model_at_41 rfl ?_
      refine ⟨_, rfl, ?_, rfl⟩
      cases hl : prt P w k with
      | none => rfl
      | some l =>
        obtain ⟨a, b, rfl, rfl, ha, hb, hq⟩ := hsome l hl
        obtain ⟨p1, o, p2, p3, p4, p5⟩ := (hP.2 a ha).2.2 b l hq
        have hml := hP.1 (ar a) (by have := ar_le a; omega)
        rw [hl] at c_15
        show _ = Value.int (rg l i)
        rw [rg_big c_9 (Int32.not_lt.mp c_15) (by omega)]
theorem c_Model_group (hT : (gl_t G)[0]? = some (cI, .int)) {R : Nat → Nat → Int32} {ml : Nat → Nat} (hP : pOk P ml R) {gs : List Int32} (hg : hol (R 18) 0 gs) (hgl : gs.length = (P 1).length) (w k : Int32) : ct_E G m_Model_group [.ref M, .int w, .int k] (mo_ov cI cZ h0 M I R) (cr (fun v h' => v = .int (if w = 0 then I 24 else if w = 1 then I 25 else if w = 2 then rg gs k else -1) ∧ h' = mo_ov cI cZ h0 M (upd I 0 0) R)) := by
  have hp1 := hP.2 1 (by decide)
  refine ct_of (ws' := tb_all) rfl rfl (Nat.le_of_ble_eq_true rfl) ?_
  refine ev_aload_n d_Model_group_0 rfl rfl ?_
  refine ev_iconst (v := 0) d_Model_group_1 (by decide) ?_
  refine mo_put (fp_Model_99 rfl rfl) d_Model_group_2 (Nat.le_of_ble_eq_true rfl) rfl rfl rfl ?_
  refine ev_iload_n d_Model_group_5 rfl rfl ?_
  refine ev_if_ne (tgt := 14) d_Model_group_6 (by decide) (fun c_6 => ?_) (fun c_6 => ?_)
  · rw [if_neg c_6]
    refine ev_iload_n d_Model_group_14 rfl rfl ?_
    refine ev_iconst (v := 1) d_Model_group_15 (by decide) ?_
    refine ev_icmp_ne (tgt := 24) d_Model_group_16 (by decide) (fun c_16 => ?_) (fun c_16 => ?_)
    · rw [if_neg c_16]
      refine ev_iload_n d_Model_group_24 rfl rfl ?_
      refine ev_iconst (v := 2) d_Model_group_25 (by decide) ?_
      refine ev_icmp_ne (tgt := 43) d_Model_group_26 (by decide) (fun c_26 => ?_) (fun c_26 => ?_)
      · rw [if_neg c_26]
        refine ev_iconst (v := (-1)) d_Model_group_43 (by decide) ?_
        refine ev_goto (tgt := 53) d_Model_group_44 (by decide) ?_
        refine ev_iret d_Model_group_53 rfl ?_
        exact ⟨_, rfl, rfl, rfl⟩
      · rw [if_pos c_26]
        refine ev_iload_n d_Model_group_29 rfl rfl ?_
        refine ev_if_lt (tgt := 43) d_Model_group_30 (by decide) (fun c_30 => ?_) (fun c_30 => ?_)
        · refine ev_iconst (v := (-1)) d_Model_group_43 (by decide) ?_
          refine ev_goto (tgt := 53) d_Model_group_44 (by decide) ?_
          refine ev_iret d_Model_group_53 rfl ?_
          rw [rg_neg c_30]
          exact ⟨_, rfl, rfl, rfl⟩
        · obtain ⟨j, hj, rfl⟩ := nI_of c_30
          have hin1 : vp_in (1 : Int32) (mo_len 15) := vp_in_nI (n := 1) (show 1 < 7 by decide) (by decide)
          refine ev_iload_n d_Model_group_33 rfl rfl ?_
          refine ev_aload_n d_Model_group_34 rfl rfl ?_
          refine mo_get (fa_Model_52 rfl rfl) d_Model_group_35 rfl ?_
          refine ev_iconst (v := 1) d_Model_group_38 (by decide) ?_
          refine mo_ald hT d_Model_group_39 (by decide) hin1 ?_
          rw [show R 15 (1 : Int32).toNatClampNeg = nI (P 1).length from hp1.1]
          refine ev_icmp_lt (tgt := 47) d_Model_group_40 (by decide) (fun c_40 => ?_) (fun c_40 => ?_)
          · have hlt : j < (P 1).length := (nI_ltI hj (by omega)).mp c_40
            have hin18 : vp_in (nI j) (mo_len 18) := vp_in_nI (show j < 1000 by omega) (by decide)
            refine ev_aload_n d_Model_group_47 rfl rfl ?_
            refine mo_get (fa_Model_61 rfl rfl) d_Model_group_48 rfl ?_
            refine ev_iload_n d_Model_group_51 rfl rfl ?_
            refine mo_ald hT d_Model_group_52 (by decide) hin18 ?_
            refine ev_iret d_Model_group_53 rfl ?_
            rw [nI_clamp hj]
            refine ⟨_, rfl, ?_, rfl⟩
            rw [rg_nat hj, List.getD_eq_getElem?_getD, hol_at hg (by omega), Nat.zero_add]
            rfl
          · refine ev_iconst (v := (-1)) d_Model_group_43 (by decide) ?_
            refine ev_goto (tgt := 53) d_Model_group_44 (by decide) ?_
            refine ev_iret d_Model_group_53 rfl ?_
            rw [rg_big c_30 (by rw [hgl]; exact Int32.not_lt.mp c_40) (by omega)]
            exact ⟨_, rfl, rfl, rfl⟩
    · rw [if_pos c_16]
      refine ev_aload_n d_Model_group_19 rfl rfl ?_
      refine mo_get (fa_Model_227 rfl rfl) d_Model_group_20 rfl ?_
      refine ev_iret d_Model_group_23 rfl ?_
      exact ⟨_, rfl, rfl, rfl⟩
  · rw [if_pos c_6]
    refine ev_aload_n d_Model_group_9 rfl rfl ?_
    refine mo_get (fa_Model_248 rfl rfl) d_Model_group_10 rfl ?_
    refine ev_iret d_Model_group_13 rfl ?_
    exact ⟨_, rfl, rfl, rfl⟩
theorem c_Model_parameterByte (hT : (gl_t G)[0]? = some (cI, .int)) {R : Nat → Nat → Int32} {hd ch : Option (List Int32)} (h37 : I 37 = oL hd) (h38 : I 38 = oL ch) (hh : ∀ l, hd = some l → l.length ≤ 1600 ∧ hol (R 26) 0 l) (hc : ∀ l, ch = some l → l.length ≤ 1600 ∧ hol (R 27) 0 l) (b : Bool) (i : Int32) : ct_E G m_Model_parameterByte [.ref M, .int (bI b), .int i] (mo_ov cI cZ h0 M I R) (cr (fun v h' => v = .int (oB (if b = true then ch else hd) i) ∧ h' = mo_ov cI cZ h0 M (upd I 0 0) R)) := by
  have key : ∀ (o : Option (List Int32)) (kk : Nat), (∀ l, o = some l → l.length ≤ 1600 ∧ hol (R kk) 0 l) → ∀ i : Int32, (i < 0 ∨ ¬ i < oL o → oB o i = -1) ∧ (¬ i < 0 → i < oL o → ∃ j, j < 1600 ∧ i = nI j ∧ oB o i = R kk j) := by
    intro o kk ho i
    refine ⟨fun h => ?_, fun h1 h2 => ?_⟩
    · cases o with
      | none => rfl
      | some l =>
        show rg l i = -1
        by_cases hi : i < 0
        · exact rg_neg hi
        · exact rg_big hi (Int32.not_lt.mp (h.resolve_left hi)) (by have := (ho l rfl).1; omega)
    · cases o with
      | none => exact absurd (Int32.lt_trans h2 (by decide)) h1
      | some l =>
        obtain ⟨j, hj, rfl⟩ := nI_of h1
        have hl := ho l rfl
        have hjl : j < l.length := (nI_ltI hj (by omega)).mp h2
        refine ⟨j, by omega, rfl, ?_⟩
        show rg l (nI j) = _
        rw [rg_nat hj, List.getD_eq_getElem?_getD, hol_at hl.2 hjl, Nat.zero_add]
        rfl
  refine ct_of (ws' := tb_all) rfl rfl (Nat.le_of_ble_eq_true rfl) ?_
  refine ev_aload_n d_Model_parameterByte_0 rfl rfl ?_
  refine ev_iconst (v := 0) d_Model_parameterByte_1 (by decide) ?_
  refine mo_put (fp_Model_99 rfl rfl) d_Model_parameterByte_2 (Nat.le_of_ble_eq_true rfl) rfl rfl rfl ?_
  refine ev_iload_n d_Model_parameterByte_5 rfl rfl ?_
  refine ev_if_eq (tgt := 16) d_Model_parameterByte_6 (by decide) (fun c_6 => ?_) (fun c_6 => ?_)
  · have hb : b = false := by
      cases b with
      | false => rfl
      | true => exact absurd c_6 (by decide)
    subst hb
    refine ev_aload_n d_Model_parameterByte_16 rfl rfl ?_
    refine mo_get (fa_Model_92 rfl rfl) d_Model_parameterByte_17 rfl ?_
    rw [show (upd I 0 0) 37 = oL hd from h37]
    refine ev_istore_n d_Model_parameterByte_20 rfl (by decide) ?_
    refine ev_iload_n d_Model_parameterByte_21 rfl rfl ?_
    refine ev_if_lt (tgt := 30) d_Model_parameterByte_22 (by decide) (fun c_22 => ?_) (fun c_22 => ?_)
    · refine ev_iconst (v := (-1)) d_Model_parameterByte_30 (by decide) ?_
      refine ev_goto (tgt := 53) d_Model_parameterByte_31 (by decide) ?_
      refine ev_iret d_Model_parameterByte_53 rfl ?_
      refine ⟨_, rfl, ?_, rfl⟩
      show _ = Value.int (oB hd i)
      rw [(key hd 26 hh i).1 (Or.inl c_22)]
    · refine ev_iload_n d_Model_parameterByte_25 rfl rfl ?_
      refine ev_iload_n d_Model_parameterByte_26 rfl rfl ?_
      refine ev_icmp_lt (tgt := 34) d_Model_parameterByte_27 (by decide) (fun c_27 => ?_) (fun c_27 => ?_)
      · obtain ⟨j, hj, rfl, e⟩ := (key hd 26 hh i).2 c_22 c_27
        have hin : vp_in (nI j) (mo_len 26) := vp_in_nI (show j < 1600 by omega) (by decide)
        refine ev_iload_n d_Model_parameterByte_34 rfl rfl ?_
        refine ev_if_eq (tgt := 47) d_Model_parameterByte_35 (by decide) (fun c_35 => ?_) (fun c_35 => ?_)
        · refine ev_aload_n d_Model_parameterByte_47 rfl rfl ?_
          refine mo_get (fa_Model_86 rfl rfl) d_Model_parameterByte_48 rfl ?_
          refine ev_iload_n d_Model_parameterByte_51 rfl rfl ?_
          refine mo_ald hT d_Model_parameterByte_52 (by decide) hin ?_
          refine ev_iret d_Model_parameterByte_53 rfl ?_
          rw [nI_clamp (by omega)]
          refine ⟨_, rfl, ?_, rfl⟩
          show _ = Value.int (oB hd (nI j))
          rw [e]
        · exact absurd rfl c_35
      · refine ev_iconst (v := (-1)) d_Model_parameterByte_30 (by decide) ?_
        refine ev_goto (tgt := 53) d_Model_parameterByte_31 (by decide) ?_
        refine ev_iret d_Model_parameterByte_53 rfl ?_
        refine ⟨_, rfl, ?_, rfl⟩
        show _ = Value.int (oB hd i)
        rw [(key hd 26 hh i).1 (Or.inr c_27)]
  · have hb : b = true := by
      cases b with
      | true => rfl
      | false => exact absurd rfl c_6
    subst hb
    refine ev_aload_n d_Model_parameterByte_9 rfl rfl ?_
    refine mo_get (fa_Model_96 rfl rfl) d_Model_parameterByte_10 rfl ?_
    refine ev_goto (tgt := 20) d_Model_parameterByte_13 (by decide) ?_
    rw [show (upd I 0 0) 38 = oL ch from h38]
    refine ev_istore_n d_Model_parameterByte_20 rfl (by decide) ?_
    refine ev_iload_n d_Model_parameterByte_21 rfl rfl ?_
    refine ev_if_lt (tgt := 30) d_Model_parameterByte_22 (by decide) (fun c_22 => ?_) (fun c_22 => ?_)
    · refine ev_iconst (v := (-1)) d_Model_parameterByte_30 (by decide) ?_
      refine ev_goto (tgt := 53) d_Model_parameterByte_31 (by decide) ?_
      refine ev_iret d_Model_parameterByte_53 rfl ?_
      refine ⟨_, rfl, ?_, rfl⟩
      show _ = Value.int (oB ch i)
      rw [(key ch 27 hc i).1 (Or.inl c_22)]
    · refine ev_iload_n d_Model_parameterByte_25 rfl rfl ?_
      refine ev_iload_n d_Model_parameterByte_26 rfl rfl ?_
      refine ev_icmp_lt (tgt := 34) d_Model_parameterByte_27 (by decide) (fun c_27 => ?_) (fun c_27 => ?_)
      · obtain ⟨j, hj, rfl, e⟩ := (key ch 27 hc i).2 c_22 c_27
        have hin : vp_in (nI j) (mo_len 27) := vp_in_nI (show j < 1600 by omega) (by decide)
        refine ev_iload_n d_Model_parameterByte_34 rfl rfl ?_
        refine ev_if_eq (tgt := 47) d_Model_parameterByte_35 (by decide) (fun c_35 => ?_) (fun c_35 => ?_)
        · exact absurd c_35 (by decide)
        · refine ev_aload_n d_Model_parameterByte_38 rfl rfl ?_
          refine mo_get (fa_Model_89 rfl rfl) d_Model_parameterByte_39 rfl ?_
          refine ev_iload_n d_Model_parameterByte_42 rfl rfl ?_
          refine mo_ald hT d_Model_parameterByte_43 (by decide) hin ?_
          refine ev_goto (tgt := 53) d_Model_parameterByte_44 (by decide) ?_
          refine ev_iret d_Model_parameterByte_53 rfl ?_
          rw [nI_clamp (by omega)]
          refine ⟨_, rfl, ?_, rfl⟩
          show _ = Value.int (oB ch (nI j))
          rw [e]
      · refine ev_iconst (v := (-1)) d_Model_parameterByte_30 (by decide) ?_
        refine ev_goto (tgt := 53) d_Model_parameterByte_31 (by decide) ?_
        refine ev_iret d_Model_parameterByte_53 rfl ?_
        refine ⟨_, rfl, ?_, rfl⟩
        show _ = Value.int (oB ch i)
        rw [(key ch 27 hc i).1 (Or.inr c_27)]
end PARTS2
