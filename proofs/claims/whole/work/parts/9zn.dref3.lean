section DREF3
variable {G : gl_G} {cI cZ : ClassId} {h0 : hp_T} {M : Nat} {I : Nat → Int32} {R : Nat → Nat → Int32} {W : Wds}
def zr (l : List Int32) : Int32 := if th3 l 101 100 116 = true then -4 else if th3 l 101 115 116 = true ∨ th3 l 99 100 116 = true then -5 else if th3 l 99 115 116 = true ∨ th3 l 109 100 116 = true then -6 else if th3 l 109 115 116 = true ∨ th3 l 112 100 116 = true then -7 else if th3 l 112 115 116 = true then -8 else 0
theorem th3_ne {l : List Int32} {a b c a' b' c' : Int32} (h : th3 l a b c = true) (hn : ¬ (a = a' ∧ b = b' ∧ c = c')) : ¬ th3 l a' b' c' = true := fun z => by
  have h1 := of_decide_eq_true h
  have h2 := of_decide_eq_true z
  exact hn ⟨h1.1.symm.trans h2.1, h1.2.1.symm.trans h2.2.1, h1.2.2.symm.trans h2.2.2⟩
theorem zn3_at {l : List Int32} {i : Nat} (hi : i < 8) (h : fst3 l znL 0 = nI i) : zn3 l = 3600 * zhL.getD i 0 := by
  unfold zn3
  rw [h, if_neg (nI_pos (by omega)), nI_clamp (by omega)]
theorem zn3_eq (l : List Int32) : zn3 l = 3600 * zr l := by
  unfold zr
  by_cases p0 : th3 l 101 115 116 = true
  · have e : fst3 l znL 0 = nI 0 := by
      unfold znL
      rw [fst3, if_pos p0]
    rw [zn3_at (by decide) e]
    rw [if_neg (th3_ne p0 (by decide)), if_pos (Or.inl p0)]
    rfl
  by_cases p1 : th3 l 101 100 116 = true
  · have e : fst3 l znL 0 = nI 1 := by
      unfold znL
      rw [fst3, if_neg p0, fst3, if_pos p1]
    rw [zn3_at (by decide) e]
    rw [if_pos p1]
    rfl
  by_cases p2 : th3 l 99 115 116 = true
  · have e : fst3 l znL 0 = nI 2 := by
      unfold znL
      rw [fst3, if_neg p0, fst3, if_neg p1, fst3, if_pos p2]
    rw [zn3_at (by decide) e]
    rw [if_neg p1, if_neg (fun q => q.elim p0 (th3_ne p2 (by decide))), if_pos (Or.inl p2)]
    rfl
  by_cases p3 : th3 l 99 100 116 = true
  · have e : fst3 l znL 0 = nI 3 := by
      unfold znL
      rw [fst3, if_neg p0, fst3, if_neg p1, fst3, if_neg p2, fst3, if_pos p3]
    rw [zn3_at (by decide) e]
    rw [if_neg p1, if_pos (Or.inr p3)]
    rfl
  by_cases p4 : th3 l 109 115 116 = true
  · have e : fst3 l znL 0 = nI 4 := by
      unfold znL
      rw [fst3, if_neg p0, fst3, if_neg p1, fst3, if_neg p2, fst3, if_neg p3, fst3, if_pos p4]
    rw [zn3_at (by decide) e]
    rw [if_neg p1, if_neg (fun q => q.elim p0 p3), if_neg (fun q => q.elim p2 (th3_ne p4 (by decide))), if_pos (Or.inl p4)]
    rfl
  by_cases p5 : th3 l 109 100 116 = true
  · have e : fst3 l znL 0 = nI 5 := by
      unfold znL
      rw [fst3, if_neg p0, fst3, if_neg p1, fst3, if_neg p2, fst3, if_neg p3, fst3, if_neg p4, fst3, if_pos p5]
    rw [zn3_at (by decide) e]
    rw [if_neg p1, if_neg (fun q => q.elim p0 p3), if_pos (Or.inr p5)]
    rfl
  by_cases p6 : th3 l 112 115 116 = true
  · have e : fst3 l znL 0 = nI 6 := by
      unfold znL
      rw [fst3, if_neg p0, fst3, if_neg p1, fst3, if_neg p2, fst3, if_neg p3, fst3, if_neg p4, fst3, if_neg p5, fst3, if_pos p6]
    rw [zn3_at (by decide) e]
    rw [if_neg p1, if_neg (fun q => q.elim p0 p3), if_neg (fun q => q.elim p2 p5), if_neg (fun q => q.elim p4 (th3_ne p6 (by decide))), if_pos p6]
    rfl
  by_cases p7 : th3 l 112 100 116 = true
  · have e : fst3 l znL 0 = nI 7 := by
      unfold znL
      rw [fst3, if_neg p0, fst3, if_neg p1, fst3, if_neg p2, fst3, if_neg p3, fst3, if_neg p4, fst3, if_neg p5, fst3, if_neg p6, fst3, if_pos p7]
    rw [zn3_at (by decide) e]
    rw [if_neg p1, if_neg (fun q => q.elim p0 p3), if_neg (fun q => q.elim p2 p5), if_pos (Or.inr p7)]
    rfl
  have e : fst3 l znL 0 = -1 := by
    unfold znL
    rw [fst3, if_neg p0, fst3, if_neg p1, fst3, if_neg p2, fst3, if_neg p3, fst3, if_neg p4, fst3, if_neg p5, fst3, if_neg p6, fst3, if_neg p7]
    rfl
  rw [if_neg p1, if_neg (fun q => q.elim p0 p3), if_neg (fun q => q.elim p2 p5), if_neg (fun q => q.elim p4 p7), if_neg p6]
  unfold zn3
  rw [e]
  rfl
theorem z_zoneOf (hT : (gl_t G)[0]? = some (cI, .int)) (hW : wOk W I R) (hl : W.length ≤ 1501) (hb : (wB W).length ≤ 1501) {k : Nat} (hk : k ≤ 5000) : ct_E G m_Model_zoneOf [.ref M, .int (nI k)] (mo_ov cI cZ h0 M I R) (cv (.int (zon W[k]?)) (mo_ov cI cZ h0 M I R)) := by
  refine ct_of (ws' := tb_all) rfl rfl (Nat.le_of_ble_eq_true rfl) ?_
  have no : zon W[k]? = 0 → ev_E G m_Model_zoneOf 18 [(0, .ref M), (1, .int (nI k))] [] (mo_ov cI cZ h0 M I R) (cv (.int (zon W[k]?)) (mo_ov cI cZ h0 M I R)) := by
    intro q
    refine ev_iconst (v := 0) d_Model_zoneOf_18 (by decide) ?_
    refine ev_iret d_Model_zoneOf_19 rfl ?_
    rw [q]
    exact ⟨rfl, rfl⟩
  refine ev_iload_n d_Model_zoneOf_0 rfl rfl ?_
  refine ev_aload_n d_Model_zoneOf_1 rfl rfl ?_
  refine mo_get (fa_Model_149 rfl rfl) d_Model_zoneOf_2 rfl ?_
  rw [hW.1]
  cases qk : W[k]? with
  | none =>
    have := List.getElem?_eq_none_iff.mp qk
    refine ev_icmp_ge (tgt := 18) d_Model_zoneOf_5 (by decide) (fun _ => ?_) (fun z => absurd (nI_le this (by omega)) z)
    rw [qk] at no
    exact no rfl
  | some w =>
    have hlt := (List.getElem?_eq_some_iff.mp qk).1
    refine ev_icmp_ge (tgt := 18) d_Model_zoneOf_5 (by decide) (fun z => absurd z (nI_ge hlt (by omega))) (fun _ => ?_)
    rw [qk] at no
    obtain ⟨r10, r11, rb, rh⟩ := wds_o hW qk
    have hh := rh _ hW.2.2.1
    have r8 := (hW.2.2.2 k w qk).1
    obtain ⟨o, ho⟩ : ∃ o, (wB (W.take k)).length = o := ⟨_, rfl⟩
    rw [ho] at r10 rb hh
    have i8 : vp_in (nI k) (mo_len 8) := vp_in_nI (show k < 1501 by omega) (by decide)
    have i10 : vp_in (nI k) (mo_len 10) := vp_in_nI (show k < 1501 by omega) (by decide)
    have io : vp_in (nI o) (mo_len 12) := vp_in_nI (show o < 1600 by omega) (by decide)
    refine ev_aload_n d_Model_zoneOf_8 rfl rfl ?_
    refine mo_get (fa_Model_31 rfl rfl) d_Model_zoneOf_9 rfl ?_
    refine ev_iload_n d_Model_zoneOf_12 rfl rfl ?_
    refine mo_ald hT d_Model_zoneOf_13 (by decide) i8 ?_
    refine ev_iconst (v := 4) d_Model_zoneOf_14 (by decide) ?_
    rw [nI_clamp (by omega), r8]
    by_cases w4 : w.1 = 4
    rotate_left
    · refine ev_icmp_eq (tgt := 20) d_Model_zoneOf_15 (by decide) (fun z => absurd z w4) (fun _ => ?_)
      exact no (if_neg w4)
    refine ev_icmp_eq (tgt := 20) d_Model_zoneOf_15 (by decide) (fun _ => ?_) (fun z => absurd w4 z)
    rw [show zon (some w) = (if w.2.2.length = 3 then zn3 w.2.2 else if w.2.2.length = 5 then sgZ w.2.2 else 0) from if_pos w4]
    refine ev_aload_n d_Model_zoneOf_20 rfl rfl ?_
    refine mo_get (fa_Model_37 rfl rfl) d_Model_zoneOf_21 rfl ?_
    refine ev_iload_n d_Model_zoneOf_24 rfl rfl ?_
    refine mo_ald hT d_Model_zoneOf_25 (by decide) i10 ?_
    rw [nI_clamp (by omega), r10]
    refine ev_istore_n d_Model_zoneOf_26 rfl (by decide) ?_
    refine ev_aload_n d_Model_zoneOf_27 rfl rfl ?_
    refine ev_iload_n d_Model_zoneOf_28 rfl rfl ?_
    refine mo_Vv [.int (nI k)] [] ca_Model_zoneOf_268 d_Model_zoneOf_29 rfl (Nat.le_of_ble_eq_true rfl) (c_Model_longOf hT hW hl qk) ?_
    refine ev_istore_n d_Model_zoneOf_32 rfl (by decide) ?_
    refine ev_aload_n d_Model_zoneOf_33 rfl rfl ?_
    refine mo_get (fa_Model_43 rfl rfl) d_Model_zoneOf_34 rfl ?_
    refine ev_iload_n d_Model_zoneOf_37 rfl rfl ?_
    refine mo_ald hT d_Model_zoneOf_38 (by decide) io ?_
    rw [nI_clamp (by omega)]
    generalize w.2.2 = l at rb hh ⊢
    generalize hc0 : R 12 o = c0
    have a166 : ∀ y : Int32, (¬ l.length = 5 ∨ sgZ l = 0) → ev_E G m_Model_zoneOf 166 [(0, .ref M), (1, .int (nI k)), (2, .int (nI o)), (3, .int (nI l.length)), (4, .int y)] [] (mo_ov cI cZ h0 M I R) (cv (.int (if l.length = 3 then zn3 l else if l.length = 5 then sgZ l else 0)) (mo_ov cI cZ h0 M I R)) := by
      intro y h5
      refine ev_iload_n d_Model_zoneOf_166 rfl rfl ?_
      refine ev_iconst (v := 3) d_Model_zoneOf_167 (by decide) ?_
      by_cases h3 : l.length = 3
      rotate_left
      · refine ev_icmp_eq (tgt := 173) d_Model_zoneOf_168 (by decide) (fun z => absurd ((nI_eq (by omega) (by decide)).mp (show nI l.length = nI 3 from z)) h3) (fun _ => ?_)
        refine ev_iconst (v := 0) d_Model_zoneOf_171 (by decide) ?_
        refine ev_iret d_Model_zoneOf_172 rfl ?_
        rw [if_neg h3, show (if l.length = 5 then sgZ l else 0) = 0 from h5.elim (fun q => if_neg q) (fun q => by split; exact q; rfl)]
        exact ⟨rfl, rfl⟩
      refine ev_icmp_eq (tgt := 173) d_Model_zoneOf_168 (by decide) (fun _ => ?_) (fun z => absurd (show nI l.length = nI 3 by rw [h3]) z)
      rw [if_pos h3, zn3_eq, zr]
      have i3 := fun y => z_isThree (G := G) (cI := cI) (cZ := cZ) (h0 := h0) (M := M) (I := I) (R := R) hT (show k < 1501 by omega) r10 (show 3 ≤ l.length by omega) (by omega) hh y
      have fin : ∀ u : Int32, ev_E G m_Model_zoneOf 295 [(0, .ref M), (1, .int (nI k)), (2, .int (nI o)), (3, .int (nI l.length)), (4, .int y)] [.int u] (mo_ov cI cZ h0 M I R) (cv (.int (3600 * u)) (mo_ov cI cZ h0 M I R)) := by
        intro u
        refine ev_istore d_Model_zoneOf_295 (by decide) ?_
        refine ev_sipush (v := 3600) d_Model_zoneOf_297 (by decide) ?_
        refine ev_iload d_Model_zoneOf_300 rfl ?_
        refine ev_imul d_Model_zoneOf_302 ?_
        refine ev_iret d_Model_zoneOf_303 rfl ?_
        exact ⟨rfl, rfl⟩
      refine ev_aload_n d_Model_zoneOf_173 rfl rfl ?_
      refine ev_iload_n d_Model_zoneOf_174 rfl rfl ?_
      refine ev_iconst (v := 0) d_Model_zoneOf_175 (by decide) ?_
      refine ev_ldcw (v := 6644852) (List.mem_cons_of_mem _ tw_1324) d_Model_zoneOf_176 ?_
      refine mo_Vv [.int (nI k), .int 0, .int _] [] ca_Model_zoneOf_279 d_Model_zoneOf_179 rfl (Nat.le_of_ble_eq_true rfl) (i3 _) ?_
      rw [show lt3 6644852 0 = 101 from by decide, show lt3 6644852 1 = 100 from by decide, show lt3 6644852 2 = 116 from by decide]
      by_cases p1 : th3 l 101 100 116 = true
      · rw [p1]
        refine ev_if_eq (tgt := 190) d_Model_zoneOf_182 (by decide) (fun z => absurd z (by decide)) (fun _ => ?_)
        refine ev_bipush (v := (-4)) d_Model_zoneOf_185 (by decide) ?_
        refine ev_goto (tgt := 295) d_Model_zoneOf_187 (by decide) ?_
        exact fin _
      rw [if_neg p1, (Bool.not_eq_true _).mp p1]
      refine ev_if_eq (tgt := 190) d_Model_zoneOf_182 (by decide) (fun _ => ?_) (fun z => absurd rfl z)
      refine ev_aload_n d_Model_zoneOf_190 rfl rfl ?_
      refine ev_iload_n d_Model_zoneOf_191 rfl rfl ?_
      refine ev_iconst (v := 0) d_Model_zoneOf_192 (by decide) ?_
      refine ev_ldcw (v := 6648692) (List.mem_cons_of_mem _ tw_1325) d_Model_zoneOf_193 ?_
      refine mo_Vv [.int (nI k), .int 0, .int _] [] ca_Model_zoneOf_279 d_Model_zoneOf_196 rfl (Nat.le_of_ble_eq_true rfl) (i3 _) ?_
      rw [show lt3 6648692 0 = 101 from by decide, show lt3 6648692 1 = 115 from by decide, show lt3 6648692 2 = 116 from by decide]
      by_cases p2 : th3 l 101 115 116 = true
      · rw [if_pos (Or.inl p2), p2]
        refine ev_if_ne (tgt := 214) d_Model_zoneOf_199 (by decide) (fun _ => ?_) (fun z => absurd z (by decide))
        refine ev_bipush (v := (-5)) d_Model_zoneOf_214 (by decide) ?_
        refine ev_goto (tgt := 295) d_Model_zoneOf_216 (by decide) ?_
        exact fin _
      rw [(Bool.not_eq_true _).mp p2]
      refine ev_if_ne (tgt := 214) d_Model_zoneOf_199 (by decide) (fun z => absurd rfl z) (fun _ => ?_)
      refine ev_aload_n d_Model_zoneOf_202 rfl rfl ?_
      refine ev_iload_n d_Model_zoneOf_203 rfl rfl ?_
      refine ev_iconst (v := 0) d_Model_zoneOf_204 (by decide) ?_
      refine ev_ldcw (v := 6513780) (List.mem_cons_of_mem _ tw_1326) d_Model_zoneOf_205 ?_
      refine mo_Vv [.int (nI k), .int 0, .int _] [] ca_Model_zoneOf_279 d_Model_zoneOf_208 rfl (Nat.le_of_ble_eq_true rfl) (i3 _) ?_
      rw [show lt3 6513780 0 = 99 from by decide, show lt3 6513780 1 = 100 from by decide, show lt3 6513780 2 = 116 from by decide]
      by_cases p3 : th3 l 99 100 116 = true
      · rw [if_pos (Or.inr p3), p3]
        refine ev_if_eq (tgt := 219) d_Model_zoneOf_211 (by decide) (fun z => absurd z (by decide)) (fun _ => ?_)
        refine ev_bipush (v := (-5)) d_Model_zoneOf_214 (by decide) ?_
        refine ev_goto (tgt := 295) d_Model_zoneOf_216 (by decide) ?_
        exact fin _
      rw [if_neg (fun q => q.elim (by decide) p3), (Bool.not_eq_true _).mp p3]
      refine ev_if_eq (tgt := 219) d_Model_zoneOf_211 (by decide) (fun _ => ?_) (fun z => absurd rfl z)
      refine ev_aload_n d_Model_zoneOf_219 rfl rfl ?_
      refine ev_iload_n d_Model_zoneOf_220 rfl rfl ?_
      refine ev_iconst (v := 0) d_Model_zoneOf_221 (by decide) ?_
      refine ev_ldcw (v := 6517620) (List.mem_cons_of_mem _ tw_1327) d_Model_zoneOf_222 ?_
      refine mo_Vv [.int (nI k), .int 0, .int _] [] ca_Model_zoneOf_279 d_Model_zoneOf_225 rfl (Nat.le_of_ble_eq_true rfl) (i3 _) ?_
      rw [show lt3 6517620 0 = 99 from by decide, show lt3 6517620 1 = 115 from by decide, show lt3 6517620 2 = 116 from by decide]
      by_cases p4 : th3 l 99 115 116 = true
      · rw [if_pos (Or.inl p4), p4]
        refine ev_if_ne (tgt := 243) d_Model_zoneOf_228 (by decide) (fun _ => ?_) (fun z => absurd z (by decide))
        refine ev_bipush (v := (-6)) d_Model_zoneOf_243 (by decide) ?_
        refine ev_goto (tgt := 295) d_Model_zoneOf_245 (by decide) ?_
        exact fin _
      rw [(Bool.not_eq_true _).mp p4]
      refine ev_if_ne (tgt := 243) d_Model_zoneOf_228 (by decide) (fun z => absurd rfl z) (fun _ => ?_)
      refine ev_aload_n d_Model_zoneOf_231 rfl rfl ?_
      refine ev_iload_n d_Model_zoneOf_232 rfl rfl ?_
      refine ev_iconst (v := 0) d_Model_zoneOf_233 (by decide) ?_
      refine ev_ldcw (v := 7169140) (List.mem_cons_of_mem _ tw_1328) d_Model_zoneOf_234 ?_
      refine mo_Vv [.int (nI k), .int 0, .int _] [] ca_Model_zoneOf_279 d_Model_zoneOf_237 rfl (Nat.le_of_ble_eq_true rfl) (i3 _) ?_
      rw [show lt3 7169140 0 = 109 from by decide, show lt3 7169140 1 = 100 from by decide, show lt3 7169140 2 = 116 from by decide]
      by_cases p5 : th3 l 109 100 116 = true
      · rw [if_pos (Or.inr p5), p5]
        refine ev_if_eq (tgt := 248) d_Model_zoneOf_240 (by decide) (fun z => absurd z (by decide)) (fun _ => ?_)
        refine ev_bipush (v := (-6)) d_Model_zoneOf_243 (by decide) ?_
        refine ev_goto (tgt := 295) d_Model_zoneOf_245 (by decide) ?_
        exact fin _
      rw [if_neg (fun q => q.elim (by decide) p5), (Bool.not_eq_true _).mp p5]
      refine ev_if_eq (tgt := 248) d_Model_zoneOf_240 (by decide) (fun _ => ?_) (fun z => absurd rfl z)
      refine ev_aload_n d_Model_zoneOf_248 rfl rfl ?_
      refine ev_iload_n d_Model_zoneOf_249 rfl rfl ?_
      refine ev_iconst (v := 0) d_Model_zoneOf_250 (by decide) ?_
      refine ev_ldcw (v := 7172980) (List.mem_cons_of_mem _ tw_1329) d_Model_zoneOf_251 ?_
      refine mo_Vv [.int (nI k), .int 0, .int _] [] ca_Model_zoneOf_279 d_Model_zoneOf_254 rfl (Nat.le_of_ble_eq_true rfl) (i3 _) ?_
      rw [show lt3 7172980 0 = 109 from by decide, show lt3 7172980 1 = 115 from by decide, show lt3 7172980 2 = 116 from by decide]
      by_cases p6 : th3 l 109 115 116 = true
      · rw [if_pos (Or.inl p6), p6]
        refine ev_if_ne (tgt := 272) d_Model_zoneOf_257 (by decide) (fun _ => ?_) (fun z => absurd z (by decide))
        refine ev_bipush (v := (-7)) d_Model_zoneOf_272 (by decide) ?_
        refine ev_goto (tgt := 295) d_Model_zoneOf_274 (by decide) ?_
        exact fin _
      rw [(Bool.not_eq_true _).mp p6]
      refine ev_if_ne (tgt := 272) d_Model_zoneOf_257 (by decide) (fun z => absurd rfl z) (fun _ => ?_)
      refine ev_aload_n d_Model_zoneOf_260 rfl rfl ?_
      refine ev_iload_n d_Model_zoneOf_261 rfl rfl ?_
      refine ev_iconst (v := 0) d_Model_zoneOf_262 (by decide) ?_
      refine ev_ldcw (v := 7365748) (List.mem_cons_of_mem _ tw_1330) d_Model_zoneOf_263 ?_
      refine mo_Vv [.int (nI k), .int 0, .int _] [] ca_Model_zoneOf_279 d_Model_zoneOf_266 rfl (Nat.le_of_ble_eq_true rfl) (i3 _) ?_
      rw [show lt3 7365748 0 = 112 from by decide, show lt3 7365748 1 = 100 from by decide, show lt3 7365748 2 = 116 from by decide]
      by_cases p7 : th3 l 112 100 116 = true
      · rw [if_pos (Or.inr p7), p7]
        refine ev_if_eq (tgt := 277) d_Model_zoneOf_269 (by decide) (fun z => absurd z (by decide)) (fun _ => ?_)
        refine ev_bipush (v := (-7)) d_Model_zoneOf_272 (by decide) ?_
        refine ev_goto (tgt := 295) d_Model_zoneOf_274 (by decide) ?_
        exact fin _
      rw [if_neg (fun q => q.elim (by decide) p7), (Bool.not_eq_true _).mp p7]
      refine ev_if_eq (tgt := 277) d_Model_zoneOf_269 (by decide) (fun _ => ?_) (fun z => absurd rfl z)
      refine ev_aload_n d_Model_zoneOf_277 rfl rfl ?_
      refine ev_iload_n d_Model_zoneOf_278 rfl rfl ?_
      refine ev_iconst (v := 0) d_Model_zoneOf_279 (by decide) ?_
      refine ev_ldcw (v := 7369588) (List.mem_cons_of_mem _ tw_1331) d_Model_zoneOf_280 ?_
      refine mo_Vv [.int (nI k), .int 0, .int _] [] ca_Model_zoneOf_279 d_Model_zoneOf_283 rfl (Nat.le_of_ble_eq_true rfl) (i3 _) ?_
      rw [show lt3 7369588 0 = 112 from by decide, show lt3 7369588 1 = 115 from by decide, show lt3 7369588 2 = 116 from by decide]
      by_cases p8 : th3 l 112 115 116 = true
      · rw [if_pos p8, p8]
        refine ev_if_eq (tgt := 294) d_Model_zoneOf_286 (by decide) (fun z => absurd z (by decide)) (fun _ => ?_)
        refine ev_bipush (v := (-8)) d_Model_zoneOf_289 (by decide) ?_
        refine ev_goto (tgt := 295) d_Model_zoneOf_291 (by decide) ?_
        exact fin _
      rw [if_neg p8, (Bool.not_eq_true _).mp p8]
      refine ev_if_eq (tgt := 294) d_Model_zoneOf_286 (by decide) (fun _ => ?_) (fun z => absurd rfl z)
      refine ev_iconst (v := 0) d_Model_zoneOf_294 (by decide) ?_
      exact fin _
    have a72 : ∀ pl : Bool, l.length = 5 → (c0 = 43 ∧ pl = true ∨ c0 = 45 ∧ pl = false) → ev_E G m_Model_zoneOf 72 [(0, .ref M), (1, .int (nI k)), (2, .int (nI o)), (3, .int (nI l.length)), (4, .int (bI pl))] [] (mo_ov cI cZ h0 M I R) (cv (.int (sgZ l)) (mo_ov cI cZ h0 M I R)) := by
      intro pl h5 hs
      match l, h5, hh, rb with
      | [d0, c1, c2, c3, c4], _, hh, rb =>
      obtain ⟨g0, hh1⟩ := hol_cons hh
      obtain ⟨g1, hh2⟩ := hol_cons hh1
      obtain ⟨g2, hh3⟩ := hol_cons hh2
      obtain ⟨g3, hh4⟩ := hol_cons hh3
      obtain ⟨g4, -⟩ := hol_cons hh4
      have e0 : d0 = c0 := g0.symm.trans hc0
      subst e0
      have rb' : o + 5 ≤ 1501 := Nat.le_trans rb hb
      have sg : sgZ [d0, c1, c2, c3, c4] = if (d0 = 43 ∨ d0 = 45) ∧ dgs [c1, c2] = true ∧ dgs [c3, c4] = true ∧ nmN [c1, c2] 0 < 24 ∧ nmN [c3, c4] 0 < 60 then (if d0 = 45 then -(60 * (60 * nI (nmN [c1, c2] 0) + nI (nmN [c3, c4] 0))) else 60 * (60 * nI (nmN [c1, c2] 0) + nI (nmN [c3, c4] 0))) else 0 := rfl
      generalize sgZ [d0, c1, c2, c3, c4] = V at sg ⊢
      have dg : ∀ {a b : Int32}, dgs [a, b] = true ↔ sp_digit a = 1 ∧ sp_digit b = 1 := by
        intro a b
        simp [dgs]
      have one : ∀ i c, 1 ≤ i → i < 5 → R 12 (o + i) = c → (sp_digit c = 1 → ev_E G m_Model_zoneOf 75 [(0, .ref M), (1, .int (nI k)), (2, .int (nI o)), (3, .int (nI 5)), (4, .int (bI pl)), (5, .int (nI (i + 1)))] [] (mo_ov cI cZ h0 M I R) (cv (.int V) (mo_ov cI cZ h0 M I R))) → (¬ sp_digit c = 1 → V = 0) → ev_E G m_Model_zoneOf 75 [(0, .ref M), (1, .int (nI k)), (2, .int (nI o)), (3, .int (nI 5)), (4, .int (bI pl)), (5, .int (nI i))] [] (mo_ov cI cZ h0 M I R) (cv (.int V) (mo_ov cI cZ h0 M I R)) := by
        intro i c hi1 hi hc yes nox
        have ii : vp_in (nI (o + i)) (mo_len 12) := vp_in_nI (show o + i < 1600 by omega) (by decide)
        refine ev_iload d_Model_zoneOf_75 rfl ?_
        refine ev_iconst (v := 5) d_Model_zoneOf_77 (by decide) ?_
        refine ev_icmp_ge (tgt := 104) d_Model_zoneOf_78 (by decide) (fun z => absurd z (nI_ge (a := i) (b := 5) (by omega) (by omega))) (fun _ => ?_)
        refine ev_aload_n d_Model_zoneOf_81 rfl rfl ?_
        refine mo_get (fa_Model_43 rfl rfl) d_Model_zoneOf_82 rfl ?_
        refine ev_iload_n d_Model_zoneOf_85 rfl rfl ?_
        refine ev_iload d_Model_zoneOf_86 rfl ?_
        refine ev_iadd d_Model_zoneOf_88 ?_
        rw [nI_add]
        refine mo_ald hT d_Model_zoneOf_89 (by decide) ii ?_
        rw [nI_clamp (by omega), hc]
        refine ev_Sv [.int c] [] ca_Model_zoneOf_271 d_Model_zoneOf_90 rfl (Nat.le_of_ble_eq_true rfl) (c_Model_isDigit c) ?_
        rcases digit_01 c with q | q
        · rw [q]
          refine ev_if_ne (tgt := 98) d_Model_zoneOf_93 (by decide) (fun _ => ?_) (fun z => absurd z (by decide))
          refine ev_iinc d_Model_zoneOf_98 rfl (by decide) ?_
          refine ev_goto (tgt := 75) d_Model_zoneOf_101 (by decide) ?_
          rw [show nI i + Int32.ofInt 1 = nI (i + 1) from nI_1 i]
          exact yes q
        · rw [q]
          refine ev_if_ne (tgt := 98) d_Model_zoneOf_93 (by decide) (fun z => absurd rfl z) (fun _ => ?_)
          refine ev_iconst (v := 0) d_Model_zoneOf_96 (by decide) ?_
          refine ev_iret d_Model_zoneOf_97 rfl ?_
          rw [nox (by rw [q]; decide)]
          exact ⟨rfl, rfl⟩
      refine ev_iconst (v := 1) d_Model_zoneOf_72 (by decide) ?_
      refine ev_istore d_Model_zoneOf_73 (by decide) ?_
      refine one 1 c1 (by decide) (by decide) g1 (fun p1 => ?_) (fun n => by rw [sg]; exact if_neg (fun z => n (dg.mp z.2.1).1))
      refine one 2 c2 (by decide) (by decide) g2 (fun p2 => ?_) (fun n => by rw [sg]; exact if_neg (fun z => n (dg.mp z.2.1).2))
      refine one 3 c3 (by decide) (by decide) g3 (fun p3 => ?_) (fun n => by rw [sg]; exact if_neg (fun z => n (dg.mp z.2.2.1).1))
      refine one 4 c4 (by decide) (by decide) g4 (fun p4 => ?_) (fun n => by rw [sg]; exact if_neg (fun z => n (dg.mp z.2.2.1).2))
      have da : dgs [c1, c2] = true := dg.mpr ⟨p1, p2⟩
      have db : dgs [c3, c4] = true := dg.mpr ⟨p3, p4⟩
      have hb12 : hol (R 12) (o + 1) [c1, c2] := hol_take hh1 2
      have hb34 : hol (R 12) (o + 3) [c3, c4] := hol_take hh3 2
      refine ev_iload d_Model_zoneOf_75 rfl ?_
      refine ev_iconst (v := 5) d_Model_zoneOf_77 (by decide) ?_
      refine ev_icmp_ge (tgt := 104) d_Model_zoneOf_78 (by decide) (fun _ => ?_) (fun z => absurd (nI_le (a := 5) (b := 5) (by omega) (by omega)) z)
      refine ev_aload_n d_Model_zoneOf_104 rfl rfl ?_
      refine ev_iload_n d_Model_zoneOf_105 rfl rfl ?_
      refine ev_iconst (v := 1) d_Model_zoneOf_106 (by decide) ?_
      refine ev_iadd d_Model_zoneOf_107 ?_
      rw [show nI o + 1 = nI (o + 1) from nI_1 o]
      refine ev_iload_n d_Model_zoneOf_108 rfl rfl ?_
      refine ev_iconst (v := 3) d_Model_zoneOf_109 (by decide) ?_
      refine ev_iadd d_Model_zoneOf_110 ?_
      rw [show nI o + 3 = nI (o + 3) from nI_add o 3]
      refine mo_Vv [.int (nI (o + 1)), .int (nI (o + 3))] [] ca_Model_zoneOf_275 d_Model_zoneOf_111 rfl (Nat.le_of_ble_eq_true rfl) (z_numberOf hT (l := [c1, c2]) rfl (by omega) hb12 da) ?_
      rw [nmR_four da (show 2 ≤ 4 by decide)]
      refine ev_istore d_Model_zoneOf_114 (by decide) ?_
      refine ev_aload_n d_Model_zoneOf_116 rfl rfl ?_
      refine ev_iload_n d_Model_zoneOf_117 rfl rfl ?_
      refine ev_iconst (v := 3) d_Model_zoneOf_118 (by decide) ?_
      refine ev_iadd d_Model_zoneOf_119 ?_
      rw [show nI o + 3 = nI (o + 3) from nI_add o 3]
      refine ev_iload_n d_Model_zoneOf_120 rfl rfl ?_
      refine ev_iconst (v := 5) d_Model_zoneOf_121 (by decide) ?_
      refine ev_iadd d_Model_zoneOf_122 ?_
      rw [show nI o + 5 = nI (o + 5) from nI_add o 5]
      refine mo_Vv [.int (nI (o + 3)), .int (nI (o + 5))] [] ca_Model_zoneOf_275 d_Model_zoneOf_123 rfl (Nat.le_of_ble_eq_true rfl) (z_numberOf hT (l := [c3, c4]) rfl (by omega) hb34 db) ?_
      rw [nmR_four db (show 2 ≤ 4 by decide)]
      have l1 := nm_lt [c1, c2] 0 da
      have l2 := nm_lt [c3, c4] 0 db
      have l1' : nmN [c1, c2] 0 < 100 := by simpa using l1
      have l2' : nmN [c3, c4] 0 < 100 := by simpa using l2
      generalize nmN [c1, c2] 0 = x at sg l1' ⊢
      generalize nmN [c3, c4] 0 = y at sg l2' ⊢
      refine ev_istore d_Model_zoneOf_126 (by decide) ?_
      refine ev_iload d_Model_zoneOf_128 rfl ?_
      refine ev_bipush (v := 23) d_Model_zoneOf_130 (by decide) ?_
      by_cases qx : x < 24
      rotate_left
      · refine ev_icmp_gt (tgt := 142) d_Model_zoneOf_132 (by decide) (fun _ => ?_) (fun z => absurd (show nI 23 < nI x from nI_lt (by omega) (by omega)) z)
        refine ev_iconst (v := 0) d_Model_zoneOf_142 (by decide) ?_
        refine ev_iret d_Model_zoneOf_143 rfl ?_
        rw [sg, if_neg (fun z => qx z.2.2.2.1)]
        exact ⟨rfl, rfl⟩
      refine ev_icmp_gt (tgt := 142) d_Model_zoneOf_132 (by decide) (fun z => absurd (show nI 23 < nI x from z) (nI_nlt (by omega) (by omega))) (fun _ => ?_)
      refine ev_iload d_Model_zoneOf_135 rfl ?_
      refine ev_bipush (v := 59) d_Model_zoneOf_137 (by decide) ?_
      by_cases qy : y < 60
      rotate_left
      · refine ev_icmp_le (tgt := 144) d_Model_zoneOf_139 (by decide) (fun z => absurd (show nI y ≤ nI 59 from z) (nI_ge (by omega) (by omega))) (fun _ => ?_)
        refine ev_iconst (v := 0) d_Model_zoneOf_142 (by decide) ?_
        refine ev_iret d_Model_zoneOf_143 rfl ?_
        rw [sg, if_neg (fun z => qy z.2.2.2.2)]
        exact ⟨rfl, rfl⟩
      refine ev_icmp_le (tgt := 144) d_Model_zoneOf_139 (by decide) (fun _ => ?_) (fun z => absurd (show nI y ≤ nI 59 from nI_le (by omega) (by decide)) z)
      rcases hs with ⟨rfl, rfl⟩ | ⟨rfl, rfl⟩
      · rw [sg, if_pos ⟨Or.inl rfl, da, db, qx, qy⟩, if_neg (by decide)]
        refine ev_iload d_Model_zoneOf_144 rfl ?_
        refine ev_if_eq (tgt := 154) d_Model_zoneOf_146 (by decide) (fun z => absurd z (by decide)) (fun _ => ?_)
        refine ev_bipush (v := 60) d_Model_zoneOf_149 (by decide) ?_
        refine ev_goto (tgt := 156) d_Model_zoneOf_151 (by decide) ?_
        refine ev_bipush (v := 60) d_Model_zoneOf_156 (by decide) ?_
        refine ev_iload d_Model_zoneOf_158 rfl ?_
        refine ev_imul d_Model_zoneOf_160 ?_
        refine ev_iload d_Model_zoneOf_161 rfl ?_
        refine ev_iadd d_Model_zoneOf_163 ?_
        refine ev_imul d_Model_zoneOf_164 ?_
        refine ev_iret d_Model_zoneOf_165 rfl ?_
        exact ⟨rfl, rfl⟩
      · rw [sg, if_pos ⟨Or.inr rfl, da, db, qx, qy⟩, if_pos rfl]
        refine ev_iload d_Model_zoneOf_144 rfl ?_
        refine ev_if_eq (tgt := 154) d_Model_zoneOf_146 (by decide) (fun _ => ?_) (fun z => absurd rfl z)
        refine ev_bipush (v := (-60)) d_Model_zoneOf_154 (by decide) ?_
        refine ev_bipush (v := 60) d_Model_zoneOf_156 (by decide) ?_
        refine ev_iload d_Model_zoneOf_158 rfl ?_
        refine ev_imul d_Model_zoneOf_160 ?_
        refine ev_iload d_Model_zoneOf_161 rfl ?_
        refine ev_iadd d_Model_zoneOf_163 ?_
        refine ev_imul d_Model_zoneOf_164 ?_
        refine ev_iret d_Model_zoneOf_165 rfl ?_
        rw [← Int32.neg_mul]
        exact ⟨rfl, rfl⟩
    have a49 : ∀ pl : Bool, (pl = true ↔ c0 = 43) → ev_E G m_Model_zoneOf 49 [(0, .ref M), (1, .int (nI k)), (2, .int (nI o)), (3, .int (nI l.length))] [.int (bI pl)] (mo_ov cI cZ h0 M I R) (cv (.int (if l.length = 3 then zn3 l else if l.length = 5 then sgZ l else 0)) (mo_ov cI cZ h0 M I R)) := by
      intro pl hp
      refine ev_istore d_Model_zoneOf_49 (by decide) ?_
      refine ev_iload_n d_Model_zoneOf_51 rfl rfl ?_
      refine ev_iconst (v := 5) d_Model_zoneOf_52 (by decide) ?_
      by_cases h5 : l.length = 5
      rotate_left
      · refine ev_icmp_ne (tgt := 166) d_Model_zoneOf_53 (by decide) (fun _ => ?_) (fun z => absurd ((nI_eq (by omega) (by decide)).mp (show nI l.length = nI 5 from z)) h5)
        exact a166 _ (Or.inl h5)
      refine ev_icmp_ne (tgt := 166) d_Model_zoneOf_53 (by decide) (fun z => absurd (show nI l.length = nI 5 by rw [h5]) z) (fun _ => ?_)
      have e5 : (if l.length = 3 then zn3 l else if l.length = 5 then sgZ l else 0) = sgZ l := (if_neg (by omega)).trans (if_pos h5)
      have rl : rg l 0 = c0 := by
        rw [← hc0, show (0 : Int32) = nI 0 from rfl]
        exact (hh 0 _ (rg_in (by omega) (by omega))).symm
      refine ev_iload d_Model_zoneOf_56 rfl ?_
      cases pl with
      | true =>
        refine ev_if_ne (tgt := 72) d_Model_zoneOf_58 (by decide) (fun _ => ?_) (fun z => absurd z (by decide))
        rw [e5]
        exact a72 true h5 (Or.inl ⟨hp.mp rfl, rfl⟩)
      | false =>
        refine ev_if_ne (tgt := 72) d_Model_zoneOf_58 (by decide) (fun z => absurd rfl z) (fun _ => ?_)
        have n43 : ¬ c0 = 43 := fun z => by cases hp.mpr z
        refine ev_aload_n d_Model_zoneOf_61 rfl rfl ?_
        refine mo_get (fa_Model_43 rfl rfl) d_Model_zoneOf_62 rfl ?_
        refine ev_iload_n d_Model_zoneOf_65 rfl rfl ?_
        refine mo_ald hT d_Model_zoneOf_66 (by decide) io ?_
        refine ev_bipush (v := 45) d_Model_zoneOf_67 (by decide) ?_
        rw [nI_clamp (by omega), hc0]
        by_cases m45 : c0 = 45
        · refine ev_icmp_ne (tgt := 166) d_Model_zoneOf_69 (by decide) (fun z => absurd m45 z) (fun _ => ?_)
          rw [e5]
          exact a72 false h5 (Or.inr ⟨m45, rfl⟩)
        · refine ev_icmp_ne (tgt := 166) d_Model_zoneOf_69 (by decide) (fun _ => ?_) (fun z => absurd z m45)
          exact a166 _ (Or.inr (if_neg (fun z => by rw [rl] at z; exact z.1.elim n43 m45)))
    refine ev_bipush (v := 43) d_Model_zoneOf_39 (by decide) ?_
    by_cases p43 : c0 = 43
    · refine ev_icmp_ne (tgt := 48) d_Model_zoneOf_41 (by decide) (fun z => absurd p43 z) (fun _ => ?_)
      refine ev_iconst (v := 1) d_Model_zoneOf_44 (by decide) ?_
      refine ev_goto (tgt := 49) d_Model_zoneOf_45 (by decide) ?_
      exact a49 true ⟨fun _ => p43, fun _ => rfl⟩
    · refine ev_icmp_ne (tgt := 48) d_Model_zoneOf_41 (by decide) (fun _ => ?_) (fun z => absurd z p43)
      refine ev_iconst (v := 0) d_Model_zoneOf_48 (by decide) ?_
      exact a49 false ⟨fun z => (by cases z), fun z => absurd z p43⟩
end DREF3
