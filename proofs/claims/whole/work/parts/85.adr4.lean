section ADR4
variable {G : gl_G} {cI cZ : ClassId} {h0 : hp_T} {M : Nat} {W : Wds}
theorem c_Model_beginGroup (hT : (gl_t G)[0]? = some (cI, .int)) {P : Pts} {ml : Nat → Nat} {I : Nat → Int32} {R : Nat → Nat → Int32} (hW : wOk W I R) (hl : W.length ≤ 1501) (hb : (wB W).length ≤ 1600) {a b : Nat} (hab : a ≤ b) (hbW : b ≤ W.length) (hP : pOk P ml R) (hn : (P 3).length < 1000) (hm : ml 0 + iv (gN W) a b ≤ 5890) : ct_E G m_Model_beginGroup [.ref M, .int (nI a), .int (nI b)] (mo_ov cI cZ h0 M I R) (cn (fun h' => ∃ (I' : Nat → Int32) (R' : Nat → Nat → Int32) (l : List Int32) (m : Nat), h' = mo_ov cI cZ h0 M I' R' ∧ pOk (va_up P 3 (P 3 ++ [l])) (upN ml 0 m) R' ∧ m ≤ ml 0 + iv (gN W) a b ∧ I' 24 = I 24 + 1 ∧ sm [24, 25] I I' ∧ sm [13, 14, 15, 16, 17] R R')) := by
  refine ct_of (ws' := tb_all) rfl rfl (Nat.le_of_ble_eq_true rfl) ?_
  refine ev_aload_n d_Model_beginGroup_0 rfl rfl ?_
  refine ev_iload_n d_Model_beginGroup_1 rfl rfl ?_
  refine ev_iload_n d_Model_beginGroup_2 rfl rfl ?_
  refine mo_Vr [.int (nI a), .int (nI b)] [] ca_Model_beginGroup_233 d_Model_beginGroup_3 rfl (Nat.le_of_ble_eq_true rfl) (c_Model_isName hT hW hl hab hbW) (fun v h1 z => ?_)
  obtain ⟨⟨nm, rfl⟩, rfl⟩ := z
  refine ev_istore_n d_Model_beginGroup_6 rfl (by decide) ?_
  -- the count of groups at the end
  have fin : ∀ (I2 : Nat → Int32) (R2 : Nat → Nat → Int32) (l : List Int32) (m : Nat), pOk (va_up P 3 (P 3 ++ [l])) (upN ml 0 m) R2 → m ≤ ml 0 + iv (gN W) a b → I2 24 = I 24 → sm [24, 25] I I2 → sm [13, 14, 15, 16, 17] R R2 → ev_E G m_Model_beginGroup 55 [(0, .ref M), (1, .int (nI a)), (2, .int (nI b)), (3, .int nm)] [] (mo_ov cI cZ h0 M I2 R2) (cn (fun h' => ∃ (I' : Nat → Int32) (R' : Nat → Nat → Int32) (l : List Int32) (m : Nat), h' = mo_ov cI cZ h0 M I' R' ∧ pOk (va_up P 3 (P 3 ++ [l])) (upN ml 0 m) R' ∧ m ≤ ml 0 + iv (gN W) a b ∧ I' 24 = I 24 + 1 ∧ sm [24, 25] I I' ∧ sm [13, 14, 15, 16, 17] R R')) := by
    intro I2 R2 l m p1 p2 h24 s1 s2
    refine ev_aload_n d_Model_beginGroup_55 rfl rfl ?_
    refine ev_dup d_Model_beginGroup_56 rfl ?_
    refine mo_get (fa_Model_248 rfl rfl) d_Model_beginGroup_57 rfl ?_
    refine ev_iconst (v := 1) d_Model_beginGroup_60 (by decide) ?_
    refine ev_iadd d_Model_beginGroup_61 ?_
    refine mo_put (fp_Model_248 rfl rfl) d_Model_beginGroup_62 (Nat.le_of_ble_eq_true rfl) rfl rfl rfl ?_
    refine ev_vret d_Model_beginGroup_65 rfl ?_
    refine ⟨rfl, _, R2, l, m, rfl, p1, p2, ?_, sm_tr s1 (sm_upd (by decide)), s2⟩
    rw [h24]
    simp [upd]
  have a31 : ∀ (I2 : Nat → Int32), I2 24 = I 24 → sm [24, 25] I I2 → I2 12 = I 12 → I2 18 = I 18 → ev_E G m_Model_beginGroup 31 [(0, .ref M), (1, .int (nI a)), (2, .int (nI b)), (3, .int nm)] [] (mo_ov cI cZ h0 M I2 R) (cn (fun h' => ∃ (I' : Nat → Int32) (R' : Nat → Nat → Int32) (l : List Int32) (m : Nat), h' = mo_ov cI cZ h0 M I' R' ∧ pOk (va_up P 3 (P 3 ++ [l])) (upN ml 0 m) R' ∧ m ≤ ml 0 + iv (gN W) a b ∧ I' 24 = I 24 + 1 ∧ sm [24, 25] I I' ∧ sm [13, 14, 15, 16, 17] R R')) := by
    intro I2 h24 s1 h12 h18
    have hW2 : wOk W I2 R := wOk_I hW h12 h18
    refine ev_iload_n d_Model_beginGroup_31 rfl rfl ?_
    refine ev_if_eq (tgt := 45) d_Model_beginGroup_32 (by decide) (fun c_32 => ?_) (fun c_32 => ?_)
    · refine ev_aload_n d_Model_beginGroup_45 rfl rfl ?_
      refine ev_iconst (v := 3) d_Model_beginGroup_46 (by decide) ?_
      refine mo_Vn [.int (nI 3)] [] ca_Model_beginGroup_204 d_Model_beginGroup_47 rfl (Nat.le_of_ble_eq_true rfl) (c_Model_beginPart (w := 3) hT hP (by decide) hn) (fun h1 z => ?_)
      obtain ⟨R1, rfl, p1, p2⟩ := z
      refine ev_aload_n d_Model_beginGroup_50 rfl rfl ?_
      refine ev_iconst (v := 3) d_Model_beginGroup_51 (by decide) ?_
      refine mo_Vn [.int (nI 3)] [] ca_Model_beginGroup_210 d_Model_beginGroup_52 rfl (Nat.le_of_ble_eq_true rfl) (c_Model_endPart (w := 3) hT (by decide) p1) (fun h1 z => ?_)
      obtain ⟨R2, rfl, p3, p4⟩ := z
      exact fin I2 R2 [] (ml 0) (by rw [upN_id rfl]; exact p3) (Nat.le_add_right _ _) h24 s1 (sm_tr p2 p4)
    · refine ev_aload_n d_Model_beginGroup_35 rfl rfl ?_
      refine ev_iconst (v := 3) d_Model_beginGroup_36 (by decide) ?_
      refine ev_iload_n d_Model_beginGroup_37 rfl rfl ?_
      refine ev_iload_n d_Model_beginGroup_38 rfl rfl ?_
      refine mo_Vn [.int (nI 3), .int (nI a), .int (nI b)] [] ca_Model_beginGroup_239 d_Model_beginGroup_39 rfl (Nat.le_of_ble_eq_true rfl) (c_Model_makeName (v := 3) hT (by decide) hW2 hl hb hab hbW hP hn hm) (fun h1 z => ?_)
      obtain ⟨l, R1, m, rfl, p1, p2, p3⟩ := z
      refine ev_goto (tgt := 55) d_Model_beginGroup_42 (by decide) ?_
      exact fin I2 R1 l m p1 p2 h24 s1 p3
  refine ev_iload_n d_Model_beginGroup_7 rfl rfl ?_
  refine ev_if_ne (tgt := 31) d_Model_beginGroup_8 (by decide) (fun c_8 => ?_) (fun c_8 => ?_)
  · exact a31 I rfl (sm_rf _ _) rfl rfl
  · refine ev_aload_n d_Model_beginGroup_11 rfl rfl ?_
    refine ev_iload_n d_Model_beginGroup_12 rfl rfl ?_
    refine ev_iload_n d_Model_beginGroup_13 rfl rfl ?_
    refine mo_Vv [.int (nI a), .int (nI b)] [] ca_Model_beginGroup_197 d_Model_beginGroup_14 rfl (Nat.le_of_ble_eq_true rfl) (c_Model_next hT hW hl hbW (by omega)) ?_
    refine ev_iload_n d_Model_beginGroup_17 rfl rfl ?_
    refine ev_icmp_ge (tgt := 31) d_Model_beginGroup_18 (by decide) (fun c_18 => ?_) (fun c_18 => ?_)
    · exact a31 I rfl (sm_rf _ _) rfl rfl
    · refine ev_aload_n d_Model_beginGroup_21 rfl rfl ?_
      refine ev_dup d_Model_beginGroup_22 rfl ?_
      refine mo_get (fa_Model_227 rfl rfl) d_Model_beginGroup_23 rfl ?_
      refine ev_iconst (v := 1) d_Model_beginGroup_26 (by decide) ?_
      refine ev_iadd d_Model_beginGroup_27 ?_
      refine mo_put (fp_Model_227 rfl rfl) d_Model_beginGroup_28 (Nat.le_of_ble_eq_true rfl) rfl rfl rfl ?_
      exact a31 _ rfl (sm_upd (by decide)) rfl rfl
/-- within addresses: at word k, the segment from a on, in group g, within < > or not -/
def adI (W : Wds) (P0 : Pts) (ml0 : Nat → Nat) (a k : Nat) (g wn : Int32) (I : Nat → Int32) (R : Nat → Nat → Int32) : Prop := ∃ (P : Pts) (ml : Nat → Nat) (gs : List Int32), pOk P ml R ∧ hol (R 18) 0 gs ∧ gs.length = (P 1).length ∧ (P 0).length = (P 1).length ∧ (P 2).length = (P 1).length ∧ (∀ w, 4 ≤ w → P w = P0 w) ∧ (∀ i, 1 ≤ i → ml i = ml0 i) ∧ ml 0 ≤ iv (gA W) 0 a ∧ 2 * (P 1).length ≤ a ∧ I 24 = nI (P 3).length ∧ (g = -1 → 2 * (P 3).length ≤ a) ∧ 2 * (P 3).length ≤ a + 1 ∧ (wn = 0 → ∀ o w, a ≤ o → o < k → W[o]? = some w → wIs w 60 = true → ∃ c w', o < c ∧ c < k ∧ W[c]? = some w' ∧ wIs w' 62 = true)
/-- what addresses leaves -/
def adQ (cI cZ : ClassId) (h0 : hp_T) (M : Nat) (I0 : Nat → Int32) (R0 : Nat → Nat → Int32) (P0 : Pts) (ml0 : Nat → Nat) : Value → hp_T → Prop := fun v h' => ∃ (P : Pts) (ml : Nat → Nat) (gs : List Int32) (I : Nat → Int32) (R : Nat → Nat → Int32), v = .int (nI (P 1).length) ∧ h' = mo_ov cI cZ h0 M I R ∧ pOk P ml R ∧ hol (R 18) 0 gs ∧ gs.length = (P 1).length ∧ (∀ w, 4 ≤ w → P w = P0 w) ∧ (∀ i, 1 ≤ i → ml i = ml0 i) ∧ sm [24, 25, 42, 43] I0 I ∧ sm [13, 14, 15, 16, 17, 18] R0 R
theorem wIs_ne {w : Int32 × Int32 × List Int32} {c d : Int32} (h : wIs w c = true) (hcd : ¬ c = d) : wIs w d = false := decide_eq_false fun z => hcd ((of_decide_eq_true h).2.symm.trans z.2)
theorem l_Model_addresses (hT : (gl_t G)[0]? = some (cI, .int)) (hl : W.length ≤ 1501) (hb : (wB W).length ≤ 1501) {P0 : Pts} {ml0 : Nat → Nat} {I0 : Nat → Int32} {R0 : Nat → Nat → Int32} {f : Int32} : ∀ (n k a : Nat) (g wn : Int32) (I : Nat → Int32) (R : Nat → Nat → Int32), W.length + 1 ≤ k + n → k ≤ W.length + 1 → a ≤ k → (wn = 0 ∨ wn = 1) → wOk W I R → sm [24, 25, 42, 43] I0 I → sm [13, 14, 15, 16, 17, 18] R0 R → adI W P0 ml0 a k g wn I R →
    ev_E G m_Model_addresses 59 [(0, .ref M), (1, .int f), (2, .int g), (3, .int (nI a)), (4, .int wn), (5, .int (nI k))] [] (mo_ov cI cZ h0 M I R) (cr (adQ cI cZ h0 M I0 R0 P0 ml0)) := by
  have i15 : vp_in (1 : Int32) (mo_len 15) := pk_in 1 7 (by decide)
  have htot : iv (gA W) 0 W.length ≤ 4503 := by
    have := gA_sum W W.length (Nat.le_refl _)
    rw [List.take_length] at this
    omega
  -- out of the loop
  have out : ∀ (k a : Nat) (g wn : Int32) (I : Nat → Int32) (R : Nat → Nat → Int32), W.length < k → k ≤ 1502 → wOk W I R → sm [24, 25, 42, 43] I0 I → sm [13, 14, 15, 16, 17, 18] R0 R → adI W P0 ml0 a k g wn I R → ev_E G m_Model_addresses 59 [(0, .ref M), (1, .int f), (2, .int g), (3, .int (nI a)), (4, .int wn), (5, .int (nI k))] [] (mo_ov cI cZ h0 M I R) (cr (adQ cI cZ h0 M I0 R0 P0 ml0)) := by
    intro k a g wn I R hk hk2 hW sI sR A
    obtain ⟨P, ml, gs, A1, A2, A3, A4, A5, A6, A7, -⟩ := A
    refine ev_iload d_Model_addresses_59 rfl ?_
    refine ev_aload_n d_Model_addresses_61 rfl rfl ?_
    refine mo_get (fa_Model_149 rfl rfl) d_Model_addresses_62 rfl ?_
    rw [hW.1]
    refine ev_icmp_gt (tgt := 291) d_Model_addresses_65 (by decide) (fun _ => ?_) (fun z => absurd (nI_lt hk (by omega)) z)
    refine ev_aload_n d_Model_addresses_291 rfl rfl ?_
    refine mo_get (fa_Model_52 rfl rfl) d_Model_addresses_292 rfl ?_
    refine ev_iconst (v := 1) d_Model_addresses_295 (by decide) ?_
    refine mo_ald hT d_Model_addresses_296 (by decide) i15 ?_
    rw [show (1 : Int32).toNatClampNeg = 1 from rfl, (A1.2 1 (by decide)).1]
    refine ev_iret d_Model_addresses_297 rfl ?_
    exact ⟨_, rfl, P, ml, gs, I, R, rfl, rfl, A1, A2, A3, A6, A7, sI, sR⟩
  intro n
  induction n with
  | zero =>
    intro k a g wn I R hk hk2 hak hwn hW sI sR A
    exact out k a g wn I R (by omega) (by omega) hW sI sR A
  | succ n ih =>
    intro k a g wn I R hk hk2 hak hwn hW sI sR A
    rcases Nat.lt_or_ge W.length k with hgt | hle
    · exact out k a g wn I R hgt (by omega) hW sI sR A
    · -- behind a segment, at 280
      have a280 : ∀ (g' wn' x6 x7 x8 : Int32) (I1 : Nat → Int32) (R1 : Nat → Nat → Int32), (wn' = 0 ∨ wn' = 1) → wOk W I1 R1 → sm [24, 25, 42, 43] I0 I1 → sm [13, 14, 15, 16, 17, 18] R0 R1 → adI W P0 ml0 (k + 1) (k + 1) g' wn' I1 R1 → ev_E G m_Model_addresses 280 [(0, .ref M), (1, .int f), (2, .int g'), (3, .int (nI a)), (4, .int wn'), (5, .int (nI k)), (6, .int x6), (7, .int x7), (8, .int x8)] [] (mo_ov cI cZ h0 M I1 R1) (cr (adQ cI cZ h0 M I0 R0 P0 ml0)) := by
        intro g' wn' x6 x7 x8 I1 R1 h1 h2 h3 h4 h5
        refine ev_iload d_Model_addresses_280 rfl ?_
        refine ev_iconst (v := 1) d_Model_addresses_282 (by decide) ?_
        refine ev_iadd d_Model_addresses_283 ?_
        rw [nI_1]
        refine ev_istore_n d_Model_addresses_284 rfl (by decide) ?_
        refine ev_iinc d_Model_addresses_285 rfl (by decide) ?_
        refine ev_goto (tgt := 59) d_Model_addresses_288 (by decide) ?_
        refine ev_as [(0, .ref M), (1, .int f), (2, .int g'), (3, .int (nI (k + 1))), (4, .int wn'), (5, .int (nI (k + 1)))] ⟨rfl, rfl, rfl, rfl, rfl, ?_, trivial⟩ (ih (k + 1) (k + 1) g' wn' I1 R1 (by omega) (by omega) (Nat.le_refl _) h1 h2 h3 h4 h5)
        show some (Value.int (nI k + Int32.ofInt 1)) = _
        rw [show nI k + Int32.ofInt 1 = nI (k + 1) from nI_1 k]
      -- the mailbox of the segment
      have box : ∀ (wn' : Int32) (I1 : Nat → Int32) (R1 : Nat → Nat → Int32) (g2 : Int32), wOk W I1 R1 → adI W P0 ml0 a k g wn' I1 R1 → ∀ h', (∃ P ml gs, tmP cI cZ h0 M I1 R1 P ml gs g a k (iv (gA W) a k) h' ∧ pOk P ml R1 ∧ hol (R1 18) 0 gs ∧ gs.length = (P 1).length ∧ (P 0).length = (P 1).length ∧ (P 2).length = (P 1).length ∧ (∀ w, 4 ≤ w → P w = P0 w) ∧ (∀ i, 1 ≤ i → ml i = ml0 i) ∧ ml 0 ≤ iv (gA W) 0 a ∧ 2 * (P 1).length ≤ a ∧ I1 24 = nI (P 3).length ∧ (g = -1 → 2 * (P 3).length ≤ a) ∧ 2 * (P 3).length ≤ a + 1) → (g2 = g ∨ g2 = -1) → ∃ I2 R2, h' = mo_ov cI cZ h0 M I2 R2 ∧ wOk W I2 R2 ∧ sm [24, 25, 42, 43] I1 I2 ∧ sm [13, 14, 15, 16, 17, 18] R1 R2 ∧ adI W P0 ml0 (k + 1) (k + 1) g2 wn' I2 R2 := by
        rintro wn' I1 R1 g2 hW1 A' h' ⟨P, ml, gs, ⟨I2, R2, rfl, t1, t2, t3⟩, B1, B2, B3, B4, B5, B6, B7, B8, B9, B10, B11, B12⟩ hg2
        have hcut := iv_cut (gA W) (x := 0) (m := a) (y := k) (Nat.zero_le _) hak
        have hmr := iv_monoR (gA W) (x := 0) (y := a) (y' := k + 1) (by omega)
        have hmr2 := iv_monoR (gA W) (x := 0) (y := k) (y' := k + 1) (by omega)
        have hW2 : wOk W I2 R2 := wOk_R (wOk_I hW1 (t1 12 (by decide)) (t1 18 (by decide))) (fun j j1 j2 => t2 j (by simp; omega))
        refine ⟨I2, R2, rfl, hW2, sm_mono t1 (by decide), t2, ?_⟩
        rcases t3 with e | ⟨hab, l0, l1, l2, m, p1, p2, p3⟩
        · refine ⟨P, ml, gs, by rw [e]; exact B1, by rw [e]; exact B2, B3, B4, B5, B6, B7, by omega, by omega, by rw [t1 24 (by decide)]; exact B10, fun z => ?_, by omega, fun _ o w o1 o2 => by omega⟩
          omega
        · refine ⟨_, _, gs ++ [g], p1, p3, ?_, ?_, ?_, fun w hw => ?_, fun i hi => ?_, ?_, ?_, ?_, fun z => ?_, ?_, fun _ o w o1 o2 => by omega⟩
          · rw [up_ne (by decide), va_up_self]; simp [B3]
          · rw [up_ne (by decide), up_ne (by decide), va_up_self, up_ne (by decide), va_up_self]; simp [B4]
          · rw [va_up_self, up_ne (by decide), va_up_self]; simp [B5]
          · rw [up_ne (by omega), up_ne (by omega), up_ne (by omega)]; exact B6 w hw
          · rw [upN_ne (by omega)]; exact B7 i hi
          · rw [upN_at]; omega
          · rw [up_ne (by decide), va_up_self]; simp; omega
          · rw [up_ne (by decide), up_ne (by decide), up_ne (by decide), t1 24 (by decide)]; exact B10
          · rw [up_ne (by decide), up_ne (by decide), up_ne (by decide)]; omega
          · rw [up_ne (by decide), up_ne (by decide), up_ne (by decide)]; omega
      refine ev_iload d_Model_addresses_59 rfl ?_
      refine ev_aload_n d_Model_addresses_61 rfl rfl ?_
      refine mo_get (fa_Model_149 rfl rfl) d_Model_addresses_62 rfl ?_
      rw [hW.1]
      refine ev_icmp_gt (tgt := 291) d_Model_addresses_65 (by decide) (fun z => absurd z (nI_nlt hle (by omega))) (fun _ => ?_)
      refine ev_iload d_Model_addresses_68 rfl ?_
      refine ev_aload_n d_Model_addresses_70 rfl rfl ?_
      refine mo_get (fa_Model_149 rfl rfl) d_Model_addresses_71 rfl ?_
      rw [hW.1]
      rcases Nat.lt_or_ge k W.length with hlt | hge
      · -- a word
        have qk : W[k]? = some W[k] := List.getElem?_eq_getElem hlt
        generalize W[k] = w at qk
        refine ev_icmp_ne (tgt := 81) d_Model_addresses_74 (by decide) (fun _ => ?_) (fun z => absurd ((nI_eq (by omega) (by omega)).mp z) (by omega))
        refine ev_iconst (v := 0) d_Model_addresses_81 (by decide) ?_
        refine ev_istore d_Model_addresses_82 (by decide) ?_
        refine ev_iload d_Model_addresses_84 rfl ?_
        refine ev_if_ne (tgt := 111) d_Model_addresses_86 (by decide) (fun z => absurd rfl z) (fun _ => ?_)
        refine ev_aload_n d_Model_addresses_89 rfl rfl ?_
        refine ev_iload d_Model_addresses_90 rfl ?_
        refine ev_bipush (v := 60) d_Model_addresses_92 (by decide) ?_
        refine mo_Vv [.int (nI k), .int 60] [] ca_Model_addresses_200 d_Model_addresses_94 rfl (Nat.le_of_ble_eq_true rfl) (c_Model_is hT hW hl qk 60) ?_
        -- at 130, within as it is now
        have a130 : ∀ wn' : Int32, (wn' = 0 ∨ wn' = 1) → (wn' = 0 → ∀ o w, a ≤ o → o < k + 1 → W[o]? = some w → wIs w 60 = true → ∃ c w', o < c ∧ c < k + 1 ∧ W[c]? = some w' ∧ wIs w' 62 = true) → (wn' = 0 → ∀ c, wIs w c = true → ¬ c = 62 → ∀ o w, a ≤ o → o < k → W[o]? = some w → wIs w 60 = true → ∃ c w', o < c ∧ c < k ∧ W[c]? = some w' ∧ wIs w' 62 = true) → ev_E G m_Model_addresses 130 [(0, .ref M), (1, .int f), (2, .int g), (3, .int (nI a)), (4, .int wn'), (5, .int (nI k)), (6, .int 0)] [] (mo_ov cI cZ h0 M I R) (cr (adQ cI cZ h0 M I0 R0 P0 ml0)) := by
          intro wn' hwn' hin hin2
          obtain ⟨P, ml, gs, A1, A2, A3, A4, A5, A6, A7, A8, A9, A10, A11, A12, -⟩ := A
          have hcut := iv_cut (gA W) (x := 0) (m := a) (y := k) (Nat.zero_le _) hak
          have hmk := iv_monoR (gA W) (x := 0) (y := k) (y' := W.length) (by omega)
          have hmk1 := iv_monoR (gA W) (x := 0) (y := k) (y' := k + 1) (by omega)
          have hNA := iv_add (gNC W) a k
          -- no segment ends here
          have a285 : ∀ (x7 x8 : Int32), ev_E G m_Model_addresses 285 [(0, .ref M), (1, .int f), (2, .int g), (3, .int (nI a)), (4, .int wn'), (5, .int (nI k)), (6, .int 0), (7, .int x7), (8, .int x8)] [] (mo_ov cI cZ h0 M I R) (cr (adQ cI cZ h0 M I0 R0 P0 ml0)) := by
            intro x7 x8
            refine ev_iinc d_Model_addresses_285 rfl (by decide) ?_
            refine ev_goto (tgt := 59) d_Model_addresses_288 (by decide) ?_
            refine ev_as [(0, .ref M), (1, .int f), (2, .int g), (3, .int (nI a)), (4, .int wn'), (5, .int (nI (k + 1)))] ⟨rfl, rfl, rfl, rfl, rfl, ?_, trivial⟩ (ih (k + 1) a g wn' I R (by omega) (by omega) (by omega) hwn' hW sI sR ⟨P, ml, gs, A1, A2, A3, A4, A5, A6, A7, A8, A9, A10, A11, A12, hin⟩)
            show some (Value.int (nI k + Int32.ofInt 1)) = _
            rw [show nI k + Int32.ofInt 1 = nI (k + 1) from nI_1 k]
          -- a segment ends: at 262 with what stands then
          have a262 : ∀ (g1 x7 : Int32) (I1 : Nat → Int32) (R1 : Nat → Nat → Int32), wOk W I1 R1 → sm [24, 25, 42, 43] I0 I1 → sm [13, 14, 15, 16, 17, 18] R0 R1 → (wIs w 59 = false → adI W P0 ml0 (k + 1) (k + 1) g1 wn' I1 R1) → (wIs w 59 = true → adI W P0 ml0 (k + 1) (k + 1) (-1) wn' I1 R1) → ev_E G m_Model_addresses 262 [(0, .ref M), (1, .int f), (2, .int g1), (3, .int (nI a)), (4, .int wn'), (5, .int (nI k)), (6, .int 0), (7, .int x7), (8, .int 1)] [] (mo_ov cI cZ h0 M I1 R1) (cr (adQ cI cZ h0 M I0 R0 P0 ml0)) := by
            intro g1 x7 I1 R1 hW1 s1 s2 k1 k2
            refine ev_iload d_Model_addresses_262 rfl ?_
            refine ev_if_ne (tgt := 280) d_Model_addresses_264 (by decide) (fun z => absurd rfl z) (fun _ => ?_)
            refine ev_aload_n d_Model_addresses_267 rfl rfl ?_
            refine ev_iload d_Model_addresses_268 rfl ?_
            refine ev_bipush (v := 59) d_Model_addresses_270 (by decide) ?_
            refine mo_Vv [.int (nI k), .int 59] [] ca_Model_addresses_200 d_Model_addresses_272 rfl (Nat.le_of_ble_eq_true rfl) (c_Model_is hT hW1 hl qk 59) ?_
            cases h59 : wIs w 59 with
            | true =>
              refine ev_if_eq (tgt := 280) d_Model_addresses_275 (by decide) (fun z => absurd (show (1 : Int32) = 0 from z) (by decide)) (fun _ => ?_)
              refine ev_iconst (v := (-1)) d_Model_addresses_278 (by decide) ?_
              refine ev_istore_n d_Model_addresses_279 rfl (by decide) ?_
              exact a280 _ _ _ _ _ I1 R1 hwn' hW1 s1 s2 (k2 h59)
            | false =>
              refine ev_if_eq (tgt := 280) d_Model_addresses_275 (by decide) (fun _ => ?_) (fun z => absurd rfl z)
              exact a280 _ _ _ _ _ I1 R1 hwn' hW1 s1 s2 (k1 h59)
          -- it is no colon: a mailbox
          have mbox : wn' = 0 → (∃ c, wIs w c = true ∧ ¬ c = 62) → ev_E G m_Model_addresses 252 [(0, .ref M), (1, .int f), (2, .int g), (3, .int (nI a)), (4, .int wn'), (5, .int (nI k)), (6, .int 0), (7, .int 0), (8, .int 1)] [] (mo_ov cI cZ h0 M I R) (cr (adQ cI cZ h0 M I0 R0 P0 ml0)) := by
            rintro hw0 ⟨c, hc1, hc2⟩
            have hin3 := hin2 hw0 c hc1 hc2
            refine ev_aload_n d_Model_addresses_252 rfl rfl ?_
            refine ev_iload_n d_Model_addresses_253 rfl rfl ?_
            refine ev_iload d_Model_addresses_254 rfl ?_
            refine ev_iload d_Model_addresses_256 rfl ?_
            refine ev_iload_n d_Model_addresses_258 rfl rfl ?_
            refine mo_Vn [.int (nI a), .int (nI k), .int wn', .int g] [] ca_Model_addresses_261 d_Model_addresses_259 rfl (Nat.le_of_ble_eq_true rfl) (c_Model_takeMailbox hT hW hl (by omega) hak (by omega) A1 A2 A3 A4 A5 (by omega) (by omega) wn' g (fun _ => hin3)) (fun h1 z => ?_)
            have A' : adI W P0 ml0 a k g wn' I R := ⟨P, ml, gs, A1, A2, A3, A4, A5, A6, A7, A8, A9, A10, A11, A12, fun _ => hin3⟩
            obtain ⟨I2, R2, rfl, w1, w2, w3, w4⟩ := box wn' I R g hW A' h1 ⟨P, ml, gs, z, A1, A2, A3, A4, A5, A6, A7, A8, A9, A10, A11, A12⟩ (Or.inl rfl)
            refine a262 g 0 I2 R2 w1 (sm_tr sI w2) (sm_tr sR w3) (fun _ => w4) (fun h59 => ?_)
            obtain ⟨P', ml', gs', C1, C2, C3, C4, C5, C6, C7, C8, C9, C10, C11, C12, C13⟩ := w4
            refine ⟨P', ml', gs', C1, C2, C3, C4, C5, C6, C7, C8, C9, C10, fun _ => ?_, C12, C13⟩
            rcases box wn' I R (-1) hW A' _ ⟨P, ml, gs, z, A1, A2, A3, A4, A5, A6, A7, A8, A9, A10, A11, A12⟩ (Or.inr rfl) with ⟨I3, R3, e3, -, -, -, D⟩
            obtain ⟨P'', ml'', gs'', D1, D2, D3, D4, D5, D6, D7, D8, D9, D10, D11, D12, D13⟩ := D
            have hR : I2 = I3 ∨ True := Or.inr trivial
            have e24 : I2 24 = I 24 := by
              obtain ⟨I4, R4, e4, t1, -⟩ := z
              have : mo_obj M I2 = mo_obj M I4 := by
                have e5 : (mo_ov cI cZ h0 M I2 R2).2.2 M = (mo_ov cI cZ h0 M I4 R4).2.2 M := by rw [e4]
                rw [mo_self, mo_self] at e5
                simpa using e5
              have e6 : (mo_obj M I2)[24]? = (mo_obj M I4)[24]? := by rw [this]
              have e7 : I2 24 = I4 24 := by simpa [mo_obj] using e6
              rw [e7, t1 24 (by decide)]
            have e8 : nI (P' 3).length = nI (P 3).length := by rw [← C10, e24, A10]
            have e9 := (nI_eq (by omega) (by omega)).mp e8
            omega
          refine ev_iload d_Model_addresses_130 rfl ?_
          refine ev_if_ne (tgt := 155) d_Model_addresses_132 (by decide) (fun z => absurd rfl z) (fun _ => ?_)
          refine ev_iload d_Model_addresses_135 rfl ?_
          rcases hwn' with hw0 | hw1
          · subst hw0
            refine ev_if_ne (tgt := 155) d_Model_addresses_137 (by decide) (fun z => absurd rfl z) (fun _ => ?_)
            refine ev_aload_n d_Model_addresses_140 rfl rfl ?_
            refine ev_iload d_Model_addresses_141 rfl ?_
            refine ev_bipush (v := 58) d_Model_addresses_143 (by decide) ?_
            refine mo_Vv [.int (nI k), .int 58] [] ca_Model_addresses_200 d_Model_addresses_145 rfl (Nat.le_of_ble_eq_true rfl) (c_Model_is hT hW hl qk 58) ?_
            cases h58 : wIs w 58 with
            | true =>
              refine ev_if_eq (tgt := 155) d_Model_addresses_148 (by decide) (fun z => absurd (show (1 : Int32) = 0 from z) (by decide)) (fun _ => ?_)
              refine ev_iconst (v := 1) d_Model_addresses_151 (by decide) ?_
              refine ev_goto (tgt := 156) d_Model_addresses_152 (by decide) ?_
              refine ev_istore d_Model_addresses_156 (by decide) ?_
              refine ev_iload d_Model_addresses_158 rfl ?_
              refine ev_if_ne (tgt := 195) d_Model_addresses_160 (by decide) (fun z => absurd rfl z) (fun _ => ?_)
              refine ev_iload d_Model_addresses_163 rfl ?_
              refine ev_if_ne (tgt := 199) d_Model_addresses_165 (by decide) (fun z => absurd rfl z) (fun _ => ?_)
              refine ev_iload d_Model_addresses_168 rfl ?_
              refine ev_if_ne (tgt := 195) d_Model_addresses_170 (by decide) (fun _ => ?_) (fun z => absurd z (by decide))
              refine ev_iconst (v := 1) d_Model_addresses_195 (by decide) ?_
              refine ev_goto (tgt := 200) d_Model_addresses_196 (by decide) ?_
              refine ev_istore d_Model_addresses_200 (by decide) ?_
              refine ev_iload d_Model_addresses_202 rfl ?_
              refine ev_if_eq (tgt := 285) d_Model_addresses_204 (by decide) (fun z => absurd z (by decide)) (fun _ => ?_)
              refine ev_iload d_Model_addresses_207 rfl ?_
              refine ev_if_eq (tgt := 234) d_Model_addresses_209 (by decide) (fun z => absurd z (by decide)) (fun _ => ?_)
              have h59 : wIs w 59 = false := wIs_ne h58 (by decide)
              refine ev_iload_n d_Model_addresses_212 rfl rfl ?_
              refine ev_iconst (v := (-1)) d_Model_addresses_213 (by decide) ?_
              refine ev_icmp_ne (tgt := 234) d_Model_addresses_214 (by decide) (fun c_214 => ?_) (fun c_214 => ?_)
              · -- in a group already
                refine ev_iload d_Model_addresses_234 rfl ?_
                refine ev_if_eq (tgt := 252) d_Model_addresses_236 (by decide) (fun z => absurd z (by decide)) (fun _ => ?_)
                refine ev_aload_n d_Model_addresses_239 rfl rfl ?_
                refine ev_dup d_Model_addresses_240 rfl ?_
                refine mo_get (fa_Model_227 rfl rfl) d_Model_addresses_241 rfl ?_
                refine ev_iconst (v := 1) d_Model_addresses_244 (by decide) ?_
                refine ev_iadd d_Model_addresses_245 ?_
                refine mo_put (fp_Model_227 rfl rfl) d_Model_addresses_246 (Nat.le_of_ble_eq_true rfl) rfl rfl rfl ?_
                refine ev_goto (tgt := 262) d_Model_addresses_249 (by decide) ?_
                refine a262 g 1 _ R (wOk_I hW rfl rfl) (sm_tr sI (sm_upd (by decide))) sR (fun _ => ⟨P, ml, gs, A1, A2, A3, A4, A5, A6, A7, by omega, by omega, A10, fun z => absurd z c_214, by omega, fun _ o w o1 o2 => by omega⟩) (fun z => by rw [h59] at z; cases z)
              · have hgN : g = -1 := by
                  by_cases q : g = -1
                  · exact q
                  · first | exact absurd q c_214 | exact c_214
                have hA11 := A11 hgN
                refine ev_aload_n d_Model_addresses_217 rfl rfl ?_
                refine ev_iload_n d_Model_addresses_218 rfl rfl ?_
                refine ev_iload d_Model_addresses_219 rfl ?_
                refine mo_Vn [.int (nI a), .int (nI k)] [] ca_Model_addresses_258 d_Model_addresses_221 rfl (Nat.le_of_ble_eq_true rfl) (c_Model_beginGroup hT hW hl (by omega) hak (by omega) A1 (by omega) (by omega)) (fun h1 z => ?_)
                obtain ⟨I1, R1, l, m, rfl, p1, p2, p3, p4, p5⟩ := z
                have h24 : I1 24 = nI ((P 3).length + 1) := by rw [p3, A10, nI_1]
                have hW1 : wOk W I1 R1 := wOk_R (wOk_I hW (p4 12 (by decide)) (p4 18 (by decide))) (fun j j1 j2 => p5 j (by simp; omega))
                refine ev_aload_n d_Model_addresses_224 rfl rfl ?_
                refine mo_get (fa_Model_248 rfl rfl) d_Model_addresses_225 rfl ?_
                rw [h24]
                refine ev_iconst (v := 1) d_Model_addresses_228 (by decide) ?_
                refine ev_isub d_Model_addresses_229 ?_
                rw [show nI ((P 3).length + 1) - 1 = nI (P 3).length from nI_pred _]
                refine ev_istore_n d_Model_addresses_230 rfl (by decide) ?_
                refine ev_goto (tgt := 262) d_Model_addresses_231 (by decide) ?_
                refine a262 (nI (P 3).length) 1 I1 R1 hW1 (sm_tr sI (sm_mono p4 (by decide))) (sm_tr sR (sm_mono p5 (by decide))) (fun _ => ⟨va_up P 3 (P 3 ++ [l]), upN ml 0 m, gs, p1, by rw [p5 18 (by decide)]; exact A2, ?_, ?_, ?_, fun w hw => ?_, fun i hi => ?_, ?_, ?_, ?_, fun z => ?_, ?_, fun _ o w o1 o2 => by omega⟩) (fun z => by rw [h59] at z; cases z)
                · rw [up_ne (by decide)]; exact A3
                · rw [up_ne (by decide), up_ne (by decide)]; exact A4
                · rw [up_ne (by decide), up_ne (by decide)]; exact A5
                · rw [up_ne (by omega)]; exact A6 w hw
                · rw [upN_ne (by omega)]; exact A7 i hi
                · rw [upN_at]; omega
                · rw [up_ne (by decide)]; omega
                · rw [h24, va_up_self]; simp
                · have := nI_pos (n := (P 3).length) (by omega)
                  rw [z] at this
                  exact absurd (by decide) this
                · rw [va_up_self]; simp; omega
            | false =>
              refine ev_if_eq (tgt := 155) d_Model_addresses_148 (by decide) (fun _ => ?_) (fun z => absurd rfl z)
              refine ev_iconst (v := 0) d_Model_addresses_155 (by decide) ?_
              refine ev_istore d_Model_addresses_156 (by decide) ?_
              refine ev_iload d_Model_addresses_158 rfl ?_
              refine ev_if_ne (tgt := 195) d_Model_addresses_160 (by decide) (fun z => absurd rfl z) (fun _ => ?_)
              refine ev_iload d_Model_addresses_163 rfl ?_
              refine ev_if_ne (tgt := 199) d_Model_addresses_165 (by decide) (fun z => absurd rfl z) (fun _ => ?_)
              refine ev_iload d_Model_addresses_168 rfl ?_
              refine ev_if_ne (tgt := 195) d_Model_addresses_170 (by decide) (fun z => absurd rfl z) (fun _ => ?_)
              have ends : (∃ c, wIs w c = true ∧ ¬ c = 62) → ev_E G m_Model_addresses 195 [(0, .ref M), (1, .int f), (2, .int g), (3, .int (nI a)), (4, .int 0), (5, .int (nI k)), (6, .int 0), (7, .int 0)] [] (mo_ov cI cZ h0 M I R) (cr (adQ cI cZ h0 M I0 R0 P0 ml0)) := by
                intro hc
                refine ev_iconst (v := 1) d_Model_addresses_195 (by decide) ?_
                refine ev_goto (tgt := 200) d_Model_addresses_196 (by decide) ?_
                refine ev_istore d_Model_addresses_200 (by decide) ?_
                refine ev_iload d_Model_addresses_202 rfl ?_
                refine ev_if_eq (tgt := 285) d_Model_addresses_204 (by decide) (fun z => absurd z (by decide)) (fun _ => ?_)
                refine ev_iload d_Model_addresses_207 rfl ?_
                refine ev_if_eq (tgt := 234) d_Model_addresses_209 (by decide) (fun _ => ?_) (fun z => absurd rfl z)
                refine ev_iload d_Model_addresses_234 rfl ?_
                refine ev_if_eq (tgt := 252) d_Model_addresses_236 (by decide) (fun _ => ?_) (fun z => absurd rfl z)
                exact mbox rfl hc
              refine ev_aload_n d_Model_addresses_173 rfl rfl ?_
              refine ev_iload d_Model_addresses_174 rfl ?_
              refine ev_bipush (v := 44) d_Model_addresses_176 (by decide) ?_
              refine mo_Vv [.int (nI k), .int 44] [] ca_Model_addresses_200 d_Model_addresses_178 rfl (Nat.le_of_ble_eq_true rfl) (c_Model_is hT hW hl qk 44) ?_
              cases h44 : wIs w 44 with
              | true =>
                refine ev_if_ne (tgt := 195) d_Model_addresses_181 (by decide) (fun _ => ?_) (fun z => absurd (show (1 : Int32) = 0 from z) (by decide))
                exact ends ⟨44, h44, by decide⟩
              | false =>
                refine ev_if_ne (tgt := 195) d_Model_addresses_181 (by decide) (fun z => absurd rfl z) (fun _ => ?_)
                refine ev_aload_n d_Model_addresses_184 rfl rfl ?_
                refine ev_iload d_Model_addresses_185 rfl ?_
                refine ev_bipush (v := 59) d_Model_addresses_187 (by decide) ?_
                refine mo_Vv [.int (nI k), .int 59] [] ca_Model_addresses_200 d_Model_addresses_189 rfl (Nat.le_of_ble_eq_true rfl) (c_Model_is hT hW hl qk 59) ?_
                cases h59 : wIs w 59 with
                | true =>
                  refine ev_if_eq (tgt := 199) d_Model_addresses_192 (by decide) (fun z => absurd (show (1 : Int32) = 0 from z) (by decide)) (fun _ => ?_)
                  exact ends ⟨59, h59, by decide⟩
                | false =>
                  refine ev_if_eq (tgt := 199) d_Model_addresses_192 (by decide) (fun _ => ?_) (fun z => absurd rfl z)
                  refine ev_iconst (v := 0) d_Model_addresses_199 (by decide) ?_
                  refine ev_istore d_Model_addresses_200 (by decide) ?_
                  refine ev_iload d_Model_addresses_202 rfl ?_
                  refine ev_if_eq (tgt := 285) d_Model_addresses_204 (by decide) (fun _ => ?_) (fun z => absurd rfl z)
                  exact a285 _ _
          · subst hw1
            refine ev_if_ne (tgt := 155) d_Model_addresses_137 (by decide) (fun _ => ?_) (fun z => absurd z (by decide))
            refine ev_iconst (v := 0) d_Model_addresses_155 (by decide) ?_
            refine ev_istore d_Model_addresses_156 (by decide) ?_
            refine ev_iload d_Model_addresses_158 rfl ?_
            refine ev_if_ne (tgt := 195) d_Model_addresses_160 (by decide) (fun z => absurd rfl z) (fun _ => ?_)
            refine ev_iload d_Model_addresses_163 rfl ?_
            refine ev_if_ne (tgt := 199) d_Model_addresses_165 (by decide) (fun _ => ?_) (fun z => absurd z (by decide))
            refine ev_iconst (v := 0) d_Model_addresses_199 (by decide) ?_
            refine ev_istore d_Model_addresses_200 (by decide) ?_
            refine ev_iload d_Model_addresses_202 rfl ?_
            refine ev_if_eq (tgt := 285) d_Model_addresses_204 (by decide) (fun _ => ?_) (fun z => absurd rfl z)
            exact a285 _ _
        -- at 111: no < that opens
        have a111 : (wn = 0 → wIs w 60 = false) → ev_E G m_Model_addresses 111 [(0, .ref M), (1, .int f), (2, .int g), (3, .int (nI a)), (4, .int wn), (5, .int (nI k)), (6, .int 0)] [] (mo_ov cI cZ h0 M I R) (cr (adQ cI cZ h0 M I0 R0 P0 ml0)) := by
          intro h60
          have A13 : wn = 0 → ∀ o w, a ≤ o → o < k → W[o]? = some w → wIs w 60 = true → ∃ c w', o < c ∧ c < k ∧ W[c]? = some w' ∧ wIs w' 62 = true := by
            obtain ⟨P, ml, gs, A1, A2, A3, A4, A5, A6, A7, A8, A9, A10, A11, A12, A13⟩ := A
            exact A13
          refine ev_iload d_Model_addresses_111 rfl ?_
          refine ev_if_ne (tgt := 130) d_Model_addresses_113 (by decide) (fun z => absurd rfl z) (fun _ => ?_)
          refine ev_aload_n d_Model_addresses_116 rfl rfl ?_
          refine ev_iload d_Model_addresses_117 rfl ?_
          refine ev_bipush (v := 62) d_Model_addresses_119 (by decide) ?_
          refine mo_Vv [.int (nI k), .int 62] [] ca_Model_addresses_200 d_Model_addresses_121 rfl (Nat.le_of_ble_eq_true rfl) (c_Model_is hT hW hl qk 62) ?_
          cases h62 : wIs w 62 with
          | true =>
            refine ev_if_eq (tgt := 130) d_Model_addresses_124 (by decide) (fun z => absurd (show (1 : Int32) = 0 from z) (by decide)) (fun _ => ?_)
            refine ev_iconst (v := 0) d_Model_addresses_127 (by decide) ?_
            refine ev_istore d_Model_addresses_128 (by decide) ?_
            refine a130 0 (Or.inl rfl) (fun _ o wo o1 o2 qo h6 => ?_) (fun _ c hc hc2 => ?_)
            · rcases Nat.lt_or_ge o k with q | q
              · exact ⟨k, w, q, Nat.lt_succ_self k, qk, h62⟩
              · have : o = k := by omega
                subst this
                rw [qk] at qo; cases qo
                rw [wIs_ne h62 (by decide)] at h6
                cases h6
            · exact absurd ((of_decide_eq_true hc).2.symm.trans (of_decide_eq_true h62).2) hc2
          | false =>
            refine ev_if_eq (tgt := 130) d_Model_addresses_124 (by decide) (fun _ => ?_) (fun z => absurd rfl z)
            refine a130 wn hwn (fun h0 o wo o1 o2 qo h6 => ?_) (fun h0 c hc hc2 => A13 h0)
            rcases Nat.lt_or_ge o k with q | q
            · obtain ⟨c, w', c1, c2, c3, c4⟩ := A13 h0 o wo o1 q qo h6
              exact ⟨c, w', c1, by omega, c3, c4⟩
            · have : o = k := by omega
              subst this
              rw [qk] at qo; cases qo
              rw [h60 h0] at h6
              cases h6
        cases h60 : wIs w 60 with
        | true =>
          refine ev_if_eq (tgt := 111) d_Model_addresses_97 (by decide) (fun z => absurd (show (1 : Int32) = 0 from z) (by decide)) (fun _ => ?_)
          refine ev_iload d_Model_addresses_100 rfl ?_
          rcases hwn with hw0 | hw1
          · subst hw0
            refine ev_if_ne (tgt := 111) d_Model_addresses_102 (by decide) (fun z => absurd rfl z) (fun _ => ?_)
            refine ev_iconst (v := 1) d_Model_addresses_105 (by decide) ?_
            refine ev_istore d_Model_addresses_106 (by decide) ?_
            refine ev_goto (tgt := 130) d_Model_addresses_108 (by decide) ?_
            exact a130 1 (Or.inr rfl) (fun z => absurd z (by decide)) (fun z => absurd z (by decide))
          · subst hw1
            refine ev_if_ne (tgt := 111) d_Model_addresses_102 (by decide) (fun _ => ?_) (fun z => absurd z (by decide))
            exact a111 (fun z => absurd z (by decide))
        | false =>
          refine ev_if_eq (tgt := 111) d_Model_addresses_97 (by decide) (fun _ => ?_) (fun z => absurd rfl z)
          exact a111 (fun _ => h60)
      · -- behind the last word
        have hkW : k = W.length := by omega
        obtain ⟨P, ml, gs, A1, A2, A3, A4, A5, A6, A7, A8, A9, A10, A11, A12, A13⟩ := id A
        have hcut := iv_cut (gA W) (x := 0) (m := a) (y := k) (Nat.zero_le _) hak
        have hmk := iv_monoR (gA W) (x := 0) (y := k) (y' := W.length) (by omega)
        refine ev_icmp_ne (tgt := 81) d_Model_addresses_74 (by decide) (fun z => absurd (by rw [hkW]) z) (fun _ => ?_)
        refine ev_iconst (v := 1) d_Model_addresses_77 (by decide) ?_
        refine ev_goto (tgt := 82) d_Model_addresses_78 (by decide) ?_
        refine ev_istore d_Model_addresses_82 (by decide) ?_
        refine ev_iload d_Model_addresses_84 rfl ?_
        refine ev_if_ne (tgt := 111) d_Model_addresses_86 (by decide) (fun _ => ?_) (fun z => absurd z (by decide))
        refine ev_iload d_Model_addresses_111 rfl ?_
        refine ev_if_ne (tgt := 130) d_Model_addresses_113 (by decide) (fun _ => ?_) (fun z => absurd z (by decide))
        refine ev_iload d_Model_addresses_130 rfl ?_
        refine ev_if_ne (tgt := 155) d_Model_addresses_132 (by decide) (fun _ => ?_) (fun z => absurd z (by decide))
        refine ev_iconst (v := 0) d_Model_addresses_155 (by decide) ?_
        refine ev_istore d_Model_addresses_156 (by decide) ?_
        refine ev_iload d_Model_addresses_158 rfl ?_
        refine ev_if_ne (tgt := 195) d_Model_addresses_160 (by decide) (fun _ => ?_) (fun z => absurd z (by decide))
        refine ev_iconst (v := 1) d_Model_addresses_195 (by decide) ?_
        refine ev_goto (tgt := 200) d_Model_addresses_196 (by decide) ?_
        refine ev_istore d_Model_addresses_200 (by decide) ?_
        refine ev_iload d_Model_addresses_202 rfl ?_
        refine ev_if_eq (tgt := 285) d_Model_addresses_204 (by decide) (fun z => absurd z (by decide)) (fun _ => ?_)
        refine ev_iload d_Model_addresses_207 rfl ?_
        refine ev_if_eq (tgt := 234) d_Model_addresses_209 (by decide) (fun _ => ?_) (fun z => absurd rfl z)
        refine ev_iload d_Model_addresses_234 rfl ?_
        refine ev_if_eq (tgt := 252) d_Model_addresses_236 (by decide) (fun _ => ?_) (fun z => absurd rfl z)
        refine ev_aload_n d_Model_addresses_252 rfl rfl ?_
        refine ev_iload_n d_Model_addresses_253 rfl rfl ?_
        refine ev_iload d_Model_addresses_254 rfl ?_
        refine ev_iload d_Model_addresses_256 rfl ?_
        refine ev_iload_n d_Model_addresses_258 rfl rfl ?_
        refine mo_Vn [.int (nI a), .int (nI k), .int wn, .int g] [] ca_Model_addresses_261 d_Model_addresses_259 rfl (Nat.le_of_ble_eq_true rfl) (c_Model_takeMailbox hT hW hl (by omega) hak (by omega) A1 A2 A3 A4 A5 (by omega) (by omega) wn g A13) (fun h1 z => ?_)
        obtain ⟨I2, R2, rfl, w1, w2, w3, w4⟩ := box wn I R g hW A h1 ⟨P, ml, gs, z, A1, A2, A3, A4, A5, A6, A7, A8, A9, A10, A11, A12⟩ (Or.inl rfl)
        refine ev_iload d_Model_addresses_262 rfl ?_
        refine ev_if_ne (tgt := 280) d_Model_addresses_264 (by decide) (fun _ => ?_) (fun z => absurd z (by decide))
        exact a280 g wn 1 0 1 I2 R2 hwn w1 (sm_tr sI w2) (sm_tr sR w3) w4
end ADR4
