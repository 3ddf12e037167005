/-! the reference: words looked at, parts made -/
def wIs (w : Int32 × Int32 × List Int32) (c : Int32) : Bool := decide (w.1 = 3 ∧ w.2.1 = c)
/-- how many COMMENTS come first -/
def cc : Wds → Nat
  | [] => 0
  | w :: t => if w.1 = 0 then cc t + 1 else 0
def nx (W : Wds) (a b : Nat) : Nat := a + cc ((W.take b).drop a)
theorem cc_le : ∀ W : Wds, cc W ≤ W.length
  | [] => Nat.le_refl _
  | w :: t => by
    have := cc_le t
    unfold cc
    split <;> simp <;> omega
theorem nx_le (W : Wds) {a b : Nat} (h : a ≤ b) (hb : b ≤ W.length) : nx W a b ≤ b := by
  have := cc_le ((W.take b).drop a)
  rw [List.length_drop, List.length_take] at this
  unfold nx
  omega
theorem nx_ge (W : Wds) (a b : Nat) : a ≤ nx W a b := Nat.le_add_right _ _
theorem nx_out (W : Wds) {a b : Nat} (h : b ≤ a) : nx W a b = a := by
  unfold nx
  rw [List.drop_eq_nil_iff.mpr (by rw [List.length_take]; omega)]
  rfl
def ar (w : Nat) : Nat := if w < 4 then 0 else if w = 4 then 1 else 2
theorem ar_sp : ∀ w, w < 7 → sp_area (nI w) = nI (ar w) := by decide +kernel
theorem ar_le (w : Nat) : ar w ≤ 2 := by unfold ar; split; omega; split <;> omega
abbrev Pts : Type := Nat → List (List Int32)
/-- one made part: its length, its place -/
def pAt (R : Nat → Nat → Int32) (w k : Nat) (l : List Int32) (top : Nat) : Prop := R 17 (1000 * w + k) = nI l.length ∧ ∃ a, R 16 (1000 * w + k) = nI a ∧ 6000 * ar w ≤ a ∧ a + l.length ≤ 6000 * ar w + top ∧ hol (R 13) a l
def pOk (P : Pts) (ml : Nat → Nat) (R : Nat → Nat → Int32) : Prop := (∀ a, a < 3 → R 14 a = nI (ml a) ∧ ml a ≤ 5900) ∧ ∀ w, w < 7 → R 15 w = nI (P w).length ∧ (P w).length ≤ 1000 ∧ ∀ (k : Nat) (l : List Int32), (P w)[k]? = some l → pAt R w k l (ml (ar w))
def pIn (P : Pts) (ml : Nat → Nat) (w : Nat) (cur : List Int32) (R : Nat → Nat → Int32) : Prop := pOk P ml R ∧ (P w).length < 1000 ∧ R 17 (1000 * w + (P w).length) = nI cur.length ∧ ∃ a, R 16 (1000 * w + (P w).length) = nI a ∧ 6000 * ar w ≤ a ∧ a + cur.length = 6000 * ar w + ml (ar w) ∧ hol (R 13) a cur
def upN (f : Nat → Nat) (k v : Nat) : Nat → Nat := fun j => if j = k then v else f j
section PARTS
variable {G : gl_G} {cI cZ : ClassId} {h0 : hp_T} {M : Nat} {I : Nat → Int32} {R : Nat → Nat → Int32} {W : Wds} {P : Pts} {ml : Nat → Nat}
theorem c_Model_is (hT : (gl_t G)[0]? = some (cI, .int)) (hW : wOk W I R) (hl : W.length ≤ 1501) {i : Nat} {w : Int32 × Int32 × List Int32} (hi : W[i]? = some w) (c : Int32) : ct_E G m_Model_is [.ref M, .int (nI i), .int c] (mo_ov cI cZ h0 M I R) (cv (.int (bI (wIs w c))) (mo_ov cI cZ h0 M I R)) := by
  have hlt := (List.getElem?_eq_some_iff.mp hi).1
  have hr := hW.2.2.2 i w hi
  have hin : vp_in (nI i) (mo_len 8) := vp_in_nI (show i < 1501 by omega) (by decide)
  refine ct_of (ws' := tb_all) rfl rfl (Nat.le_of_ble_eq_true rfl) ?_
  refine ev_aload_n d_Model_is_0 rfl rfl ?_
  refine mo_get (fa_Model_31 rfl rfl) d_Model_is_1 rfl ?_
  refine ev_iload_n d_Model_is_4 rfl rfl ?_
  refine mo_ald hT d_Model_is_5 (by decide) hin ?_
  refine ev_iconst (v := 3) d_Model_is_6 (by decide) ?_
  rw [nI_clamp (by omega), hr.1]
  refine ev_icmp_ne (tgt := 24) d_Model_is_7 (by decide) (fun c_7 => ?_) (fun c_7 => ?_)
  · refine ev_iconst (v := 0) d_Model_is_24 (by decide) ?_
    refine ev_zret d_Model_is_25 rfl rfl ?_
    rw [show wIs w c = false from decide_eq_false (fun z => c_7 z.1)]
    exact ⟨rfl, rfl⟩
  · refine ev_aload_n d_Model_is_10 rfl rfl ?_
    refine mo_get (fa_Model_34 rfl rfl) d_Model_is_11 rfl ?_
    refine ev_iload_n d_Model_is_14 rfl rfl ?_
    refine mo_ald hT d_Model_is_15 (by decide) hin ?_
    refine ev_iload_n d_Model_is_16 rfl rfl ?_
    rw [nI_clamp (by omega), hr.2.1]
    refine ev_icmp_ne (tgt := 24) d_Model_is_17 (by decide) (fun c_17 => ?_) (fun c_17 => ?_)
    · refine ev_iconst (v := 0) d_Model_is_24 (by decide) ?_
      refine ev_zret d_Model_is_25 rfl rfl ?_
      rw [show wIs w c = false from decide_eq_false (fun z => c_17 z.2)]
      exact ⟨rfl, rfl⟩
    · refine ev_iconst (v := 1) d_Model_is_20 (by decide) ?_
      refine ev_goto (tgt := 25) d_Model_is_21 (by decide) ?_
      refine ev_zret d_Model_is_25 rfl rfl ?_
      rw [show wIs w c = true from decide_eq_true ⟨c_7, c_17⟩]
      exact ⟨rfl, rfl⟩
theorem l_Model_next (hT : (gl_t G)[0]? = some (cI, .int)) (hW : wOk W I R) (hl : W.length ≤ 1501) {b : Nat} (hb : b ≤ W.length) {x : Int32} : ∀ (t : Wds) (k : Nat), k + t.length = b → (W.take b).drop k = t →
    ev_E G m_Model_next 2 [(0, .ref M), (1, .int x), (2, .int (nI b)), (3, .int (nI k))] [] (mo_ov cI cZ h0 M I R) (cv (.int (nI (k + cc t))) (mo_ov cI cZ h0 M I R)) := by
  intro t
  induction t with
  | nil =>
    intro k hk hd
    refine ev_iload_n d_Model_next_2 rfl rfl ?_
    refine ev_iload_n d_Model_next_3 rfl rfl ?_
    refine ev_icmp_ge (tgt := 22) d_Model_next_4 (by decide) (fun c_4 => ?_) (fun c_4 => ?_)
    · refine ev_iload_n d_Model_next_22 rfl rfl ?_
      refine ev_iret d_Model_next_23 rfl ?_
      exact ⟨rfl, rfl⟩
    · exact absurd (nI_le (a := b) (b := k) (by simp at hk; omega) (by simp at hk; omega)) c_4
  | cons w t ih =>
    intro k hk hd
    simp only [List.length_cons] at hk
    have hq : (W.take b)[k]? = some w := by
      have := congrArg (fun l => l[0]?) hd
      simpa using this
    have hq2 : W[k]? = some w := by
      rw [List.getElem?_take] at hq
      split at hq
      · exact hq
      · cases hq
    have hd2 : (W.take b).drop (k + 1) = t := by
      have := congrArg (fun l => l.drop 1) hd
      simpa [List.drop_drop, Nat.add_comm] using this
    have hin : vp_in (nI k) (mo_len 8) := vp_in_nI (show k < 1501 by omega) (by decide)
    refine ev_iload_n d_Model_next_2 rfl rfl ?_
    refine ev_iload_n d_Model_next_3 rfl rfl ?_
    refine ev_icmp_ge (tgt := 22) d_Model_next_4 (by decide) (fun c_4 => ?_) (fun c_4 => ?_)
    · exact absurd c_4 (nI_ge (a := k) (b := b) (by omega) (by omega))
    · refine ev_aload_n d_Model_next_7 rfl rfl ?_
      refine mo_get (fa_Model_31 rfl rfl) d_Model_next_8 rfl ?_
      refine ev_iload_n d_Model_next_11 rfl rfl ?_
      refine mo_ald hT d_Model_next_12 (by decide) hin ?_
      rw [nI_clamp (by omega), (hW.2.2.2 k w hq2).1]
      refine ev_if_ne (tgt := 22) d_Model_next_13 (by decide) (fun c_13 => ?_) (fun c_13 => ?_)
      · refine ev_iload_n d_Model_next_22 rfl rfl ?_
        refine ev_iret d_Model_next_23 rfl ?_
        rw [show cc (w :: t) = 0 from if_neg c_13]
        exact ⟨rfl, rfl⟩
      · refine ev_iinc d_Model_next_16 rfl (by decide) ?_
        refine ev_goto (tgt := 2) d_Model_next_19 (by decide) ?_
        rw [show cc (w :: t) = cc t + 1 from if_pos c_13, show k + (cc t + 1) = k + 1 + cc t by omega]
        refine ev_as [(0, .ref M), (1, .int x), (2, .int (nI b)), (3, .int (nI (k + 1)))] ⟨rfl, rfl, rfl, ?_, trivial⟩ (ih (k + 1) (by omega) hd2)
        show some (Value.int (nI k + 1)) = _
        rw [nI_succ]
theorem c_Model_next (hT : (gl_t G)[0]? = some (cI, .int)) (hW : wOk W I R) (hl : W.length ≤ 1501) {a b : Nat} (hb : b ≤ W.length) (ha : a < 2 ^ 30) : ct_E G m_Model_next [.ref M, .int (nI a), .int (nI b)] (mo_ov cI cZ h0 M I R) (cv (.int (nI (nx W a b))) (mo_ov cI cZ h0 M I R)) := by
  refine ct_of (ws' := tb_all) rfl rfl (Nat.le_of_ble_eq_true rfl) ?_
  refine ev_iload_n d_Model_next_0 rfl rfl ?_
  refine ev_istore_n d_Model_next_1 rfl (by decide) ?_
  refine ev_as [(0, .ref M), (1, .int (nI a)), (2, .int (nI b)), (3, .int (nI a))] ⟨rfl, rfl, rfl, rfl, trivial⟩ ?_
  by_cases hab : a ≤ b
  · exact l_Model_next hT hW hl hb _ a (by rw [List.length_drop, List.length_take]; omega) rfl
  · rw [nx_out W (by omega)]
    refine ev_iload_n d_Model_next_2 rfl rfl ?_
    refine ev_iload_n d_Model_next_3 rfl rfl ?_
    refine ev_icmp_ge (tgt := 22) d_Model_next_4 (by decide) (fun c_4 => ?_) (fun c_4 => ?_)
    · refine ev_iload_n d_Model_next_22 rfl rfl ?_
      refine ev_iret d_Model_next_23 rfl ?_
      exact ⟨rfl, rfl⟩
    · exact absurd (nI_le (a := b) (b := a) (by omega) (by omega)) c_4
theorem c_Model_roomAt (hT : (gl_t G)[0]? = some (cI, .int)) (hP : pOk P ml R) {w : Nat} (hw : w < 7) : ct_E G m_Model_roomAt [.ref M, .int (nI w)] (mo_ov cI cZ h0 M I R) (cv (.int (nI (6000 * ar w + ml (ar w)))) (mo_ov cI cZ h0 M I R)) := by
  have ha := ar_le w
  have hm := hP.1 (ar w) (by omega)
  have hin : vp_in (nI (ar w)) (mo_len 14) := vp_in_nI (show ar w < 3 by omega) (by decide)
  refine ct_of (ws' := tb_all) rfl rfl (Nat.le_of_ble_eq_true rfl) ?_
  refine ev_sipush (v := 6000) d_Model_roomAt_0 (by decide) ?_
  refine ev_iload_n d_Model_roomAt_3 rfl rfl ?_
  refine ev_Sv [.int (nI w)] [.int 6000] ca_Model_roomAt_185 d_Model_roomAt_4 rfl (Nat.le_of_ble_eq_true rfl) (c_Model_areaOf (nI w)) ?_
  rw [ar_sp w hw]
  refine ev_imul d_Model_roomAt_7 ?_
  refine ev_aload_n d_Model_roomAt_8 rfl rfl ?_
  refine mo_get (fa_Model_49 rfl rfl) d_Model_roomAt_9 rfl ?_
  refine ev_iload_n d_Model_roomAt_12 rfl rfl ?_
  rw [show (6000 : Int32) * nI (ar w) = nI (6000 * ar w) from pk_mul 6000 (ar w)]
  refine ev_Sv [.int (nI w)] [.ref (M + 14), .int (nI (6000 * ar w))] ca_Model_roomAt_185 d_Model_roomAt_13 rfl (Nat.le_of_ble_eq_true rfl) (c_Model_areaOf (nI w)) ?_
  rw [ar_sp w hw]
  refine mo_ald hT d_Model_roomAt_16 (by decide) hin ?_
  refine ev_iadd d_Model_roomAt_17 ?_
  refine ev_iret d_Model_roomAt_18 rfl ?_
  rw [nI_clamp (by omega), hm.1, nI_add]
  exact ⟨rfl, rfl⟩
theorem c_Model_beginPart (hT : (gl_t G)[0]? = some (cI, .int)) (hP : pOk P ml R) {w : Nat} (hw : w < 7) (hn : (P w).length < 1000) : ct_E G m_Model_beginPart [.ref M, .int (nI w)] (mo_ov cI cZ h0 M I R) (cn (fun h' => ∃ R', h' = mo_ov cI cZ h0 M I R' ∧ pIn P ml w [] R' ∧ sm [13, 14, 15, 16, 17] R R')) := by
  have hm := hP.2 w hw
  have hin : vp_in (nI w) (mo_len 15) := vp_in_nI (show w < 7 by omega) (by decide)
  have hin2 : vp_in (nI (1000 * w + (P w).length)) (mo_len 16) := vp_in_nI (show _ < 7000 by omega) (by decide)
  refine ct_of (ws' := tb_all) rfl rfl (Nat.le_of_ble_eq_true rfl) ?_
  refine ev_sipush (v := 1000) d_Model_beginPart_0 (by decide) ?_
  refine ev_iload_n d_Model_beginPart_3 rfl rfl ?_
  refine ev_imul d_Model_beginPart_4 ?_
  refine ev_aload_n d_Model_beginPart_5 rfl rfl ?_
  refine mo_get (fa_Model_52 rfl rfl) d_Model_beginPart_6 rfl ?_
  refine ev_iload_n d_Model_beginPart_9 rfl rfl ?_
  refine mo_ald hT d_Model_beginPart_10 (by decide) hin ?_
  rw [nI_clamp (by omega), hm.1, show (1000 : Int32) * nI w = nI (1000 * w) from pk_mul 1000 w]
  refine ev_iadd d_Model_beginPart_11 ?_
  rw [nI_add]
  refine ev_istore_n d_Model_beginPart_12 rfl (by decide) ?_
  refine ev_aload_n d_Model_beginPart_13 rfl rfl ?_
  refine mo_get (fa_Model_55 rfl rfl) d_Model_beginPart_14 rfl ?_
  refine ev_iload_n d_Model_beginPart_17 rfl rfl ?_
  refine ev_aload_n d_Model_beginPart_18 rfl rfl ?_
  refine ev_iload_n d_Model_beginPart_19 rfl rfl ?_
  refine mo_Vv [.int (nI w)] [.int (nI (1000 * w + (P w).length)), .ref (M + 16)] ca_Model_beginPart_188 d_Model_beginPart_20 rfl (Nat.le_of_ble_eq_true rfl) (c_Model_roomAt hT hP hw) ?_
  refine mo_ast hT d_Model_beginPart_23 (by decide) hin2 ?_
  refine ev_aload_n d_Model_beginPart_24 rfl rfl ?_
  refine mo_get (fa_Model_58 rfl rfl) d_Model_beginPart_25 rfl ?_
  refine ev_iload_n d_Model_beginPart_28 rfl rfl ?_
  refine ev_iconst (v := 0) d_Model_beginPart_29 (by decide) ?_
  refine mo_ast hT d_Model_beginPart_30 (by decide) hin2 ?_
  refine ev_vret d_Model_beginPart_31 rfl ?_
  rw [nI_clamp (by omega)]
  refine ⟨rfl, _, rfl, ⟨⟨hP.1, fun v hv => ⟨(hP.2 v hv).1, (hP.2 v hv).2.1, fun k l hk => ?_⟩⟩, hn, ?_, _, ?_, Nat.le_add_right _ _, rfl, hol_nil _ _⟩, ?_⟩
  · obtain ⟨p1, a, p2, p3⟩ := (hP.2 v hv).2.2 k l hk
    have hkl := (List.getElem?_eq_some_iff.mp hk).1
    have hvl := (hP.2 v hv).2.1
    have hne : 1000 * v + k ≠ 1000 * w + (P w).length := by
      intro z
      have : v = w := by omega
      subst this
      omega
    refine ⟨?_, a, ?_, p3⟩
    · show upd (R 17) (1000 * w + (P w).length) 0 (1000 * v + k) = _
      rw [upd_ne hne]; exact p1
    · show upd (R 16) (1000 * w + (P w).length) _ (1000 * v + k) = _
      rw [upd_ne hne]; exact p2
  · show upd (R 17) (1000 * w + (P w).length) 0 (1000 * w + (P w).length) = _
    rw [upd_at]; rfl
  · show upd (R 16) (1000 * w + (P w).length) _ (1000 * w + (P w).length) = _
    rw [upd_at]
  · exact sm_tr (sm_up (by decide)) (sm_up (by decide))
theorem c_Model_add (hT : (gl_t G)[0]? = some (cI, .int)) {w : Nat} (hw : w < 7) {cur : List Int32} (hP : pIn P ml w cur R) (hml : ml (ar w) < 5900) (c : Int32) : ct_E G m_Model_add [.ref M, .int (nI w), .int c] (mo_ov cI cZ h0 M I R) (cn (fun h' => ∃ R', h' = mo_ov cI cZ h0 M I R' ∧ pIn P (upN ml (ar w) (ml (ar w) + 1)) w (cur ++ [c]) R' ∧ sm [13, 14, 15, 16, 17] R R')) := by
  obtain ⟨hO, hn, hlen, a, hat, ha1, ha2, hhol⟩ := hP
  have har := ar_le w
  have hm := hO.1 (ar w) (by omega)
  have hwm := hO.2 w hw
  have hin13 : vp_in (nI (6000 * ar w + ml (ar w))) (mo_len 13) := vp_in_nI (show _ < 20000 by omega) (by decide)
  have hin14 : vp_in (nI (ar w)) (mo_len 14) := vp_in_nI (show ar w < 3 by omega) (by decide)
  have hin15 : vp_in (nI w) (mo_len 15) := vp_in_nI (show w < 7 by omega) (by decide)
  have hin17 : vp_in (nI (1000 * w + (P w).length)) (mo_len 17) := vp_in_nI (show _ < 7000 by omega) (by decide)
  refine ct_of (ws' := tb_all) rfl rfl (Nat.le_of_ble_eq_true rfl) ?_
  refine ev_aload_n d_Model_add_0 rfl rfl ?_
  refine mo_get (fa_Model_46 rfl rfl) d_Model_add_1 rfl ?_
  refine ev_aload_n d_Model_add_4 rfl rfl ?_
  refine ev_iload_n d_Model_add_5 rfl rfl ?_
  refine mo_Vv [.int (nI w)] [.ref (M + 13)] ca_Model_add_188 d_Model_add_6 rfl (Nat.le_of_ble_eq_true rfl) (c_Model_roomAt hT hO hw) ?_
  refine ev_iload_n d_Model_add_9 rfl rfl ?_
  refine mo_ast hT d_Model_add_10 (by decide) hin13 ?_
  refine ev_aload_n d_Model_add_11 rfl rfl ?_
  refine mo_get (fa_Model_49 rfl rfl) d_Model_add_12 rfl ?_
  refine ev_iload_n d_Model_add_15 rfl rfl ?_
  rw [nI_clamp (n := 6000 * ar w + ml (ar w)) (by omega)]
  refine ev_Sv [.int (nI w)] [.ref (M + 14)] ca_Model_add_185 d_Model_add_16 rfl (Nat.le_of_ble_eq_true rfl) (c_Model_areaOf (nI w)) ?_
  rw [ar_sp w hw]
  refine ev_dup2_11 d_Model_add_19 rfl rfl ?_
  refine mo_ald hT d_Model_add_20 (by decide) hin14 ?_
  refine ev_iconst (v := 1) d_Model_add_21 (by decide) ?_
  refine ev_iadd d_Model_add_22 ?_
  refine mo_ast hT d_Model_add_23 (by decide) hin14 ?_
  rw [nI_clamp (n := ar w) (by omega), up_ne (show 14 ≠ 13 by decide), hm.1, ← nI_succ]
  refine ev_aload_n d_Model_add_24 rfl rfl ?_
  refine mo_get (fa_Model_58 rfl rfl) d_Model_add_25 rfl ?_
  refine ev_sipush (v := 1000) d_Model_add_28 (by decide) ?_
  refine ev_iload_n d_Model_add_31 rfl rfl ?_
  refine ev_imul d_Model_add_32 ?_
  refine ev_aload_n d_Model_add_33 rfl rfl ?_
  refine mo_get (fa_Model_52 rfl rfl) d_Model_add_34 rfl ?_
  refine ev_iload_n d_Model_add_37 rfl rfl ?_
  refine mo_ald hT d_Model_add_38 (by decide) hin15 ?_
  rw [nI_clamp (n := w) (by omega), up_ne (show 15 ≠ 14 by decide), up_ne (show 15 ≠ 13 by decide), hwm.1, show (1000 : Int32) * nI w = nI (1000 * w) from pk_mul 1000 w]
  refine ev_iadd d_Model_add_39 ?_
  rw [nI_add]
  refine ev_dup2_11 d_Model_add_40 rfl rfl ?_
  refine mo_ald hT d_Model_add_41 (by decide) hin17 ?_
  refine ev_iconst (v := 1) d_Model_add_42 (by decide) ?_
  refine ev_iadd d_Model_add_43 ?_
  refine mo_ast hT d_Model_add_44 (by decide) hin17 ?_
  refine ev_vret d_Model_add_45 rfl ?_
  rw [nI_clamp (n := 1000 * w + (P w).length) (by omega), up_ne (show 17 ≠ 14 by decide), up_ne (show 17 ≠ 13 by decide), hlen, ← nI_succ]
  have r13 : ∀ j, j < 6000 * ar w + ml (ar w) → upd (R 13) (6000 * ar w + ml (ar w)) c j = R 13 j := fun j hj => upd_ne (by omega)
  refine ⟨rfl, _, rfl, ⟨⟨fun x hx => ?_, fun v hv => ⟨(hO.2 v hv).1, (hO.2 v hv).2.1, fun k l hk => ?_⟩⟩, hn, ?_, a, hat, ha1, ?_, ?_⟩, ?_⟩
  · show upd (R 14) (ar w) (nI (ml (ar w) + 1)) x = nI (upN ml (ar w) (ml (ar w) + 1) x) ∧ upN ml (ar w) (ml (ar w) + 1) x ≤ 5900
    unfold upN
    by_cases hxa : x = ar w
    · subst hxa
      rw [upd_at, if_pos rfl]
      exact ⟨rfl, by omega⟩
    · rw [upd_ne hxa, if_neg hxa]
      exact hO.1 x hx
  · obtain ⟨p1, b, p2, p3, p4, p5⟩ := (hO.2 v hv).2.2 k l hk
    have hkl := (List.getElem?_eq_some_iff.mp hk).1
    have hvl := (hO.2 v hv).2.1
    have hne : 1000 * v + k ≠ 1000 * w + (P w).length := by
      intro z
      have : v = w := by omega
      subst this
      omega
    refine ⟨?_, b, p2, p3, ?_, ?_⟩
    · show upd (R 17) (1000 * w + (P w).length) (nI (cur.length + 1)) (1000 * v + k) = _
      rw [upd_ne hne]; exact p1
    · unfold upN
      split
      · rename_i z; rw [z] at p4 ⊢; omega
      · exact p4
    · show hol (upd (R 13) (6000 * ar w + ml (ar w)) c) b l
      refine hol_same p5 (fun j j1 j2 => upd_ne ?_)
      have hv2 := hO.1 (ar v) (by have := ar_le v; omega)
      by_cases z : ar v = ar w
      · rw [z] at p4; omega
      · have h3 := ar_le v
        omega
  · show upd (R 17) (1000 * w + (P w).length) (nI (cur.length + 1)) (1000 * w + (P w).length) = _
    rw [upd_at, List.length_append]; rfl
  · rw [List.length_append, List.length_singleton]
    unfold upN
    rw [if_pos rfl]
    omega
  · show hol (upd (R 13) (6000 * ar w + ml (ar w)) c) a (cur ++ [c])
    rw [← ha2]
    exact hol_snoc hhol c
  · exact sm_tr (sm_tr (sm_up (by decide)) (sm_up (by decide))) (sm_up (by decide))
theorem c_Model_endPart (hT : (gl_t G)[0]? = some (cI, .int)) {w : Nat} (hw : w < 7) {cur : List Int32} (hP : pIn P ml w cur R) : ct_E G m_Model_endPart [.ref M, .int (nI w)] (mo_ov cI cZ h0 M I R) (cn (fun h' => ∃ R', h' = mo_ov cI cZ h0 M I R' ∧ pOk (va_up P w (P w ++ [cur])) ml R' ∧ sm [13, 14, 15, 16, 17] R R')) := by
  obtain ⟨hO, hn, hlen, a, hat, ha1, ha2, hhol⟩ := hP
  have hwm := hO.2 w hw
  have hin15 : vp_in (nI w) (mo_len 15) := vp_in_nI (show w < 7 by omega) (by decide)
  refine ct_of (ws' := tb_all) rfl rfl (Nat.le_of_ble_eq_true rfl) ?_
  refine ev_aload_n d_Model_endPart_0 rfl rfl ?_
  refine mo_get (fa_Model_52 rfl rfl) d_Model_endPart_1 rfl ?_
  refine ev_iload_n d_Model_endPart_4 rfl rfl ?_
  refine ev_dup2_11 d_Model_endPart_5 rfl rfl ?_
  refine mo_ald hT d_Model_endPart_6 (by decide) hin15 ?_
  refine ev_iconst (v := 1) d_Model_endPart_7 (by decide) ?_
  refine ev_iadd d_Model_endPart_8 ?_
  refine mo_ast hT d_Model_endPart_9 (by decide) hin15 ?_
  refine ev_vret d_Model_endPart_10 rfl ?_
  rw [nI_clamp (by omega), hwm.1, ← nI_succ]
  refine ⟨rfl, _, rfl, ⟨hO.1, fun v hv => ?_⟩, sm_up (by decide)⟩
  show upd (R 15) w (nI ((P w).length + 1)) v = _ ∧ _
  by_cases hvw : v = w
  · subst hvw
    rw [upd_at, va_up_self, List.length_append]
    refine ⟨rfl, by simp; omega, fun k l hk => ?_⟩
    by_cases hkl : k < (P v).length
    · rw [List.getElem?_append_left hkl] at hk
      exact (hO.2 v hv).2.2 k l hk
    · have hk2 : k = (P v).length := by
        have := (List.getElem?_eq_some_iff.mp hk).1
        simp at this
        omega
      subst hk2
      rw [List.getElem?_append_right (Nat.le_refl _), Nat.sub_self] at hk
      cases hk
      exact ⟨hlen, a, hat, ha1, by omega, hhol⟩
  · rw [upd_ne hvw, up_ne hvw]
    exact hO.2 v hv
end PARTS
