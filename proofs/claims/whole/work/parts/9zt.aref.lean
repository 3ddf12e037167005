/-! the reference: addresses: what is made, strong -/
section ADS
variable {G : gl_G} {cI cZ : ClassId} {h0 : hp_T} {M : Nat} {I : Nat → Int32} {W : Wds} {P : Pts} {ml : Nat → Nat}
/-- a part more, l, of what kind v, ml at most by c more -/
def mkQ (cI cZ : ClassId) (h0 : hp_T) (M : Nat) (I : Nat → Int32) (R : Nat → Nat → Int32) (P : Pts) (ml : Nat → Nat) (v c : Nat) (l : List Int32) : hp_T → Prop := fun h' => ∃ (R' : Nat → Nat → Int32) (m : Nat), h' = mo_ov cI cZ h0 M I R' ∧ pOk (va_up P v (P v ++ [l])) (upN ml 0 m) R' ∧ m ≤ ml 0 + c ∧ sm [13, 14, 15, 16, 17] R R'
theorem k_Model_makeName (hT : (gl_t G)[0]? = some (cI, .int)) {v : Nat} (hv : v < 4) (hl : W.length ≤ 1501) (hb : (wB W).length ≤ 1600) {b : Nat} (hbW : b ≤ W.length) {x : Int32} {R0 : Nat → Nat → Int32} : ∀ (n k : Nat) (cur : List Int32) (m : Nat) (s : Bool) (R : Nat → Nat → Int32), b ≤ k + n → k ≤ b → (k < b → ∀ w, W[k]? = some w → ¬ w.1 = 0) → wOk W I R → pIn P (upN ml 0 m) v cur R → m + iv (gN W) k b ≤ 5890 → sm [13, 14, 15, 16, 17] R0 R →
    ev_E G m_Model_makeName 16 [(0, .ref M), (1, .int (nI v)), (2, .int x), (3, .int (nI b)), (4, .int (bI s)), (5, .int (nI k))] [] (mo_ov cI cZ h0 M I R) (cn (fun h' => ∃ (R' : Nat → Nat → Int32) (m' : Nat), h' = mo_ov cI cZ h0 M I R' ∧ pOk (va_up P v (P v ++ [cur ++ ad_nT s (nc (ad_sl W k b))])) (upN ml 0 m') R' ∧ m' ≤ m + iv (gN W) k b ∧ sm [13, 14, 15, 16, 17] R0 R')) := by
  have hv7 : v < 7 := by omega
  have har : ar v = 0 := if_pos hv
  intro n
  induction n with
  | zero =>
    intro k cur m s R hk hkb hnc hW hP hm hs
    refine ev_iload d_Model_makeName_16 rfl ?_
    refine ev_iload_n d_Model_makeName_18 rfl rfl ?_
    refine ev_icmp_ge (tgt := 69) d_Model_makeName_19 (by decide) (fun _ => ?_) (fun z => absurd (nI_le (by omega) (by omega)) z)
    refine ev_aload_n d_Model_makeName_69 rfl rfl ?_
    refine ev_iload_n d_Model_makeName_70 rfl rfl ?_
    refine mo_Vn [.int (nI v)] [] ca_Model_makeName_210 d_Model_makeName_71 rfl (Nat.le_of_ble_eq_true rfl) (c_Model_endPart hT hv7 hP) (fun h1 z => ?_)
    obtain ⟨R2, rfl, q1, q2⟩ := z
    refine ev_vret d_Model_makeName_74 rfl ?_
    rw [sl_nil (show b ≤ k by omega), show ad_nT s (nc []) = [] by cases s <;> rfl, List.append_nil]
    exact ⟨rfl, R2, m, rfl, q1, Nat.le_add_right _ _, sm_tr hs q2⟩
  | succ n ih =>
    intro k cur m s R hk hkb hnc hW hP hm hs
    refine ev_iload d_Model_makeName_16 rfl ?_
    refine ev_iload_n d_Model_makeName_18 rfl rfl ?_
    refine ev_icmp_ge (tgt := 69) d_Model_makeName_19 (by decide) (fun c_19 => ?_) (fun c_19 => ?_)
    · have hkb2 := (nI_leI (by omega) (by omega)).mp c_19
      refine ev_aload_n d_Model_makeName_69 rfl rfl ?_
      refine ev_iload_n d_Model_makeName_70 rfl rfl ?_
      refine mo_Vn [.int (nI v)] [] ca_Model_makeName_210 d_Model_makeName_71 rfl (Nat.le_of_ble_eq_true rfl) (c_Model_endPart hT hv7 hP) (fun h1 z => ?_)
      obtain ⟨R2, rfl, q1, q2⟩ := z
      refine ev_vret d_Model_makeName_74 rfl ?_
      rw [sl_nil (show b ≤ k by omega), show ad_nT s (nc []) = [] by cases s <;> rfl, List.append_nil]
      exact ⟨rfl, R2, m, rfl, q1, Nat.le_add_right _ _, sm_tr hs q2⟩
    · have hlt := lt_of_nge (by omega) c_19
      have qk : W[k]? = some W[k] := List.getElem?_eq_getElem (by omega)
      generalize W[k] = w at qk
      have hg := gN_at qk (hnc hlt w qk)
      have hst := iv_step (gN W) hlt
      have hnx := nx_le W (a := k + 1) (b := b) (by omega) hbW
      have hng := nx_ge W (k + 1) b
      have hmo := iv_mono (gN W) (x := k + 1) (x' := nx W (k + 1) b) (y := b) hng
      have hsl : nc (ad_sl W k b) = w :: nc (ad_sl W (nx W (k + 1) b) b) := by
        rw [sl_step hlt hbW qk, nc_cons, if_neg (hnc hlt w qk), (nx_sl (a := k + 1) (by omega) hbW).2]
      -- from 45 on, with m1 bytes made
      have on : ∀ (cur1 : List Int32) (m1 : Nat) (R1 : Nat → Nat → Int32), wOk W I R1 → pIn P (upN ml 0 m1) v cur1 R1 → m ≤ m1 → m1 ≤ m + 1 → sm [13, 14, 15, 16, 17] R0 R1 → cur1 ++ (w.2.2 ++ ad_nT true (nc (ad_sl W (nx W (k + 1) b) b))) = cur ++ ad_nT s (nc (ad_sl W k b)) → ev_E G m_Model_makeName 45 [(0, .ref M), (1, .int (nI v)), (2, .int x), (3, .int (nI b)), (4, .int (bI s)), (5, .int (nI k))] [] (mo_ov cI cZ h0 M I R1) (cn (fun h' => ∃ (R' : Nat → Nat → Int32) (m' : Nat), h' = mo_ov cI cZ h0 M I R' ∧ pOk (va_up P v (P v ++ [cur ++ ad_nT s (nc (ad_sl W k b))])) (upN ml 0 m') R' ∧ m' ≤ m + iv (gN W) k b ∧ sm [13, 14, 15, 16, 17] R0 R')) := by
        intro cur1 m1 R1 hW1 hP1 g1 g2 s1 ee
        refine ev_aload_n d_Model_makeName_45 rfl rfl ?_
        refine ev_iload_n d_Model_makeName_46 rfl rfl ?_
        refine ev_iload d_Model_makeName_47 rfl ?_
        refine mo_Vn [.int (nI v), .int (nI k)] [] ca_Model_makeName_207 d_Model_makeName_49 rfl (Nat.le_of_ble_eq_true rfl) (c_Model_addWord hT hv7 hW1 hl hb qk hP1 (by rw [har, upN_at]; omega)) (fun h1 z => ?_)
        obtain ⟨R2, rfl, q1, q2⟩ := z
        rw [har, upN_at, upN_same] at q1
        have hW2 : wOk W I R2 := wOk_R hW1 (fun j j1 j2 => q2 j (by simp; omega))
        refine ev_iconst (v := 1) d_Model_makeName_52 (by decide) ?_
        refine ev_istore d_Model_makeName_53 (by decide) ?_
        refine ev_aload_n d_Model_makeName_55 rfl rfl ?_
        refine ev_iload d_Model_makeName_56 rfl ?_
        refine ev_iconst (v := 1) d_Model_makeName_58 (by decide) ?_
        refine ev_iadd d_Model_makeName_59 ?_
        rw [nI_1]
        refine ev_iload_n d_Model_makeName_60 rfl rfl ?_
        refine mo_Vv [.int (nI (k + 1)), .int (nI b)] [] ca_Model_makeName_197 d_Model_makeName_61 rfl (Nat.le_of_ble_eq_true rfl) (c_Model_next hT hW2 hl hbW (by omega)) ?_
        refine ev_istore d_Model_makeName_64 (by decide) ?_
        refine ev_goto (tgt := 16) d_Model_makeName_66 (by decide) ?_
        refine ev_to (ih (nx W (k + 1) b) (cur1 ++ w.2.2) (m1 + w.2.2.length) true R2 (by omega) hnx (fun h w hw => nx_nc h hw) hW2 q1 (by omega) (sm_tr s1 q2)) ?_
        rintro o h' ⟨rfl, R', m', rfl, r1, r2, r3⟩
        rw [List.append_assoc, ee] at r1
        exact ⟨rfl, R', m', rfl, r1, by omega, r3⟩
      refine ev_iload d_Model_makeName_22 rfl ?_
      refine ev_if_eq (tgt := 45) d_Model_makeName_24 (by decide) (fun c_24 => ?_) (fun c_24 => ?_)
      · have hs0 : s = false := by
          cases s with
          | false => rfl
          | true => exact absurd c_24 (by decide)
        subst hs0
        exact on cur m R hW hP (Nat.le_refl _) (by omega) hs (by rw [hsl]; rfl)
      · have hs1 : s = true := by
          cases s with
          | true => rfl
          | false => exact absurd rfl c_24
        subst hs1
        refine ev_aload_n d_Model_makeName_27 rfl rfl ?_
        refine ev_iload d_Model_makeName_28 rfl ?_
        refine ev_bipush (v := 46) d_Model_makeName_30 (by decide) ?_
        refine mo_Vv [.int (nI k), .int 46] [] ca_Model_makeName_200 d_Model_makeName_32 rfl (Nat.le_of_ble_eq_true rfl) (c_Model_is hT hW hl qk 46) ?_
        cases h46 : wIs w 46 with
        | true =>
          refine ev_if_ne (tgt := 45) d_Model_makeName_35 (by decide) (fun _ => ?_) (fun z => absurd (show (1 : Int32) = 0 from z) (by decide))
          exact on cur m R hW hP (Nat.le_refl _) (by omega) hs (by rw [hsl, ad_nT, h46]; rfl)
        | false =>
          refine ev_if_ne (tgt := 45) d_Model_makeName_35 (by decide) (fun z => absurd rfl z) (fun _ => ?_)
          refine ev_aload_n d_Model_makeName_38 rfl rfl ?_
          refine ev_iload_n d_Model_makeName_39 rfl rfl ?_
          refine ev_bipush (v := 32) d_Model_makeName_40 (by decide) ?_
          refine mo_Vn [.int (nI v), .int 32] [] ca_Model_makeName_191 d_Model_makeName_42 rfl (Nat.le_of_ble_eq_true rfl) (c_Model_add hT hv7 hP (by rw [har, upN_at]; omega) 32) (fun h1 z => ?_)
          obtain ⟨R1, rfl, q1, q2⟩ := z
          rw [har, upN_at, upN_same] at q1
          exact on (cur ++ [32]) (m + 1) R1 (wOk_R hW (fun j j1 j2 => q2 j (by simp; omega))) q1 (by omega) (Nat.le_refl _) (sm_tr hs q2) (by rw [hsl, ad_nT, h46, List.append_assoc]; rfl)
theorem s_Model_makeName (hT : (gl_t G)[0]? = some (cI, .int)) {v : Nat} (hv : v < 4) {R : Nat → Nat → Int32} (hW : wOk W I R) (hl : W.length ≤ 1501) (hb : (wB W).length ≤ 1600) {a b : Nat} (hab : a ≤ b) (hbW : b ≤ W.length) (hP : pOk P ml R) (hn : (P v).length < 1000) (hm : ml 0 + iv (gN W) a b ≤ 5890) : ct_E G m_Model_makeName [.ref M, .int (nI v), .int (nI a), .int (nI b)] (mo_ov cI cZ h0 M I R) (cn (mkQ cI cZ h0 M I R P ml v (iv (gN W) a b) (ad_nT false (nc (ad_sl W a b))))) := by
  have har : ar v = 0 := if_pos hv
  have hng := nx_ge W a b
  have hmo := iv_mono (gN W) (x := a) (x' := nx W a b) (y := b) hng
  refine ct_of (ws' := tb_all) rfl rfl (Nat.le_of_ble_eq_true rfl) ?_
  refine ev_aload_n d_Model_makeName_0 rfl rfl ?_
  refine ev_iload_n d_Model_makeName_1 rfl rfl ?_
  refine mo_Vn [.int (nI v)] [] ca_Model_makeName_204 d_Model_makeName_2 rfl (Nat.le_of_ble_eq_true rfl) (c_Model_beginPart hT hP (by omega) hn) (fun h1 z => ?_)
  obtain ⟨R2, rfl, q1, q2⟩ := z
  have hW2 : wOk W I R2 := wOk_R hW (fun j j1 j2 => q2 j (by simp; omega))
  refine ev_iconst (v := 0) d_Model_makeName_5 (by decide) ?_
  refine ev_istore d_Model_makeName_6 (by decide) ?_
  refine ev_aload_n d_Model_makeName_8 rfl rfl ?_
  refine ev_iload_n d_Model_makeName_9 rfl rfl ?_
  refine ev_iload_n d_Model_makeName_10 rfl rfl ?_
  refine mo_Vv [.int (nI a), .int (nI b)] [] ca_Model_makeName_197 d_Model_makeName_11 rfl (Nat.le_of_ble_eq_true rfl) (c_Model_next hT hW2 hl hbW (by omega)) ?_
  refine ev_istore d_Model_makeName_14 (by decide) ?_
  refine ev_as [(0, .ref M), (1, .int (nI v)), (2, .int (nI a)), (3, .int (nI b)), (4, .int (bI false)), (5, .int (nI (nx W a b)))] ⟨rfl, rfl, rfl, rfl, rfl, rfl, trivial⟩ ?_
  refine ev_to (k_Model_makeName (ml := ml) (R0 := R) hT hv hl hb hbW (b - nx W a b) (nx W a b) [] (ml 0) false R2 (by have := nx_le W hab hbW; omega) (nx_le W hab hbW) (fun h w hw => nx_nc h hw) hW2 (by rw [upN_id rfl]; exact q1) (by omega) q2) ?_
  rintro o h' ⟨rfl, R', m', rfl, r1, r2, r3⟩
  rw [List.nil_append, ← (nx_sl hab hbW).2] at r1
  exact ⟨rfl, R', m', rfl, r1, by omega, r3⟩
theorem k_Model_makeWords (hT : (gl_t G)[0]? = some (cI, .int)) {v : Nat} (hv : v < 4) (hl : W.length ≤ 1501) (hb : (wB W).length ≤ 1600) {b : Nat} (hbW : b ≤ W.length) {x : Int32} {R0 : Nat → Nat → Int32} : ∀ (n k : Nat) (cur : List Int32) (m : Nat) (R : Nat → Nat → Int32), b ≤ k + n → k ≤ b → (k < b → ∀ w, W[k]? = some w → ¬ w.1 = 0) → wOk W I R → pIn P (upN ml 0 m) v cur R → m + iv (gN W) k b ≤ 5890 → sm [13, 14, 15, 16, 17] R0 R →
    ev_E G m_Model_makeWords 13 [(0, .ref M), (1, .int (nI v)), (2, .int x), (3, .int (nI b)), (4, .int (nI k))] [] (mo_ov cI cZ h0 M I R) (cn (fun h' => ∃ (R' : Nat → Nat → Int32) (m' : Nat), h' = mo_ov cI cZ h0 M I R' ∧ pOk (va_up P v (P v ++ [cur ++ ad_wT (nc (ad_sl W k b))])) (upN ml 0 m') R' ∧ m' ≤ m + iv (gN W) k b ∧ sm [13, 14, 15, 16, 17] R0 R')) := by
  have hv7 : v < 7 := by omega
  have har : ar v = 0 := if_pos hv
  intro n
  induction n with
  | zero =>
    intro k cur m R hk hkb hnc hW hP hm hs
    refine ev_iload d_Model_makeWords_13 rfl ?_
    refine ev_iload_n d_Model_makeWords_15 rfl rfl ?_
    refine ev_icmp_ge (tgt := 76) d_Model_makeWords_16 (by decide) (fun _ => ?_) (fun z => absurd (nI_le (by omega) (by omega)) z)
    refine ev_aload_n d_Model_makeWords_76 rfl rfl ?_
    refine ev_iload_n d_Model_makeWords_77 rfl rfl ?_
    refine mo_Vn [.int (nI v)] [] ca_Model_makeWords_210 d_Model_makeWords_78 rfl (Nat.le_of_ble_eq_true rfl) (c_Model_endPart hT hv7 hP) (fun h1 z => ?_)
    obtain ⟨R2, rfl, q1, q2⟩ := z
    refine ev_vret d_Model_makeWords_81 rfl ?_
    rw [sl_nil (show b ≤ k by omega), show ad_wT (nc []) = [] from rfl, List.append_nil]
    exact ⟨rfl, R2, m, rfl, q1, Nat.le_add_right _ _, sm_tr hs q2⟩
  | succ n ih =>
    intro k cur m R hk hkb hnc hW hP hm hs
    refine ev_iload d_Model_makeWords_13 rfl ?_
    refine ev_iload_n d_Model_makeWords_15 rfl rfl ?_
    refine ev_icmp_ge (tgt := 76) d_Model_makeWords_16 (by decide) (fun c_16 => ?_) (fun c_16 => ?_)
    · have hkb2 := (nI_leI (by omega) (by omega)).mp c_16
      refine ev_aload_n d_Model_makeWords_76 rfl rfl ?_
      refine ev_iload_n d_Model_makeWords_77 rfl rfl ?_
      refine mo_Vn [.int (nI v)] [] ca_Model_makeWords_210 d_Model_makeWords_78 rfl (Nat.le_of_ble_eq_true rfl) (c_Model_endPart hT hv7 hP) (fun h1 z => ?_)
      obtain ⟨R2, rfl, q1, q2⟩ := z
      refine ev_vret d_Model_makeWords_81 rfl ?_
      rw [sl_nil (show b ≤ k by omega), show ad_wT (nc []) = [] from rfl, List.append_nil]
      exact ⟨rfl, R2, m, rfl, q1, Nat.le_add_right _ _, sm_tr hs q2⟩
    · have hlt := lt_of_nge (by omega) c_16
      have qk : W[k]? = some W[k] := List.getElem?_eq_getElem (by omega)
      generalize W[k] = w at qk
      have hg := gN_at qk (hnc hlt w qk)
      have hst := iv_step (gN W) hlt
      have hnx := nx_le W (a := k + 1) (b := b) (by omega) hbW
      have hng := nx_ge W (k + 1) b
      have hmo := iv_mono (gN W) (x := k + 1) (x' := nx W (k + 1) b) (y := b) hng
      have i8 : vp_in (nI k) (mo_len 8) := vp_in_nI (show k < 1501 by omega) (by decide)
      have hsl : nc (ad_sl W k b) = w :: nc (ad_sl W (nx W (k + 1) b) b) := by
        rw [sl_step hlt hbW qk, nc_cons, if_neg (hnc hlt w qk), (nx_sl (a := k + 1) (by omega) hbW).2]
      -- from 62 on
      have on62 : ∀ (cur1 : List Int32) (m1 : Nat) (R1 : Nat → Nat → Int32), wOk W I R1 → pIn P (upN ml 0 m1) v cur1 R1 → m1 ≤ m + w.2.2.length + 2 → sm [13, 14, 15, 16, 17] R0 R1 → cur1 ++ ad_wT (nc (ad_sl W (nx W (k + 1) b) b)) = cur ++ ad_wT (nc (ad_sl W k b)) → ev_E G m_Model_makeWords 62 [(0, .ref M), (1, .int (nI v)), (2, .int x), (3, .int (nI b)), (4, .int (nI k))] [] (mo_ov cI cZ h0 M I R1) (cn (fun h' => ∃ (R' : Nat → Nat → Int32) (m' : Nat), h' = mo_ov cI cZ h0 M I R' ∧ pOk (va_up P v (P v ++ [cur ++ ad_wT (nc (ad_sl W k b))])) (upN ml 0 m') R' ∧ m' ≤ m + iv (gN W) k b ∧ sm [13, 14, 15, 16, 17] R0 R')) := by
        intro cur1 m1 R1 hW1 hP1 g2 s1 ee
        refine ev_aload_n d_Model_makeWords_62 rfl rfl ?_
        refine ev_iload d_Model_makeWords_63 rfl ?_
        refine ev_iconst (v := 1) d_Model_makeWords_65 (by decide) ?_
        refine ev_iadd d_Model_makeWords_66 ?_
        rw [nI_1]
        refine ev_iload_n d_Model_makeWords_67 rfl rfl ?_
        refine mo_Vv [.int (nI (k + 1)), .int (nI b)] [] ca_Model_makeWords_197 d_Model_makeWords_68 rfl (Nat.le_of_ble_eq_true rfl) (c_Model_next hT hW1 hl hbW (by omega)) ?_
        refine ev_istore d_Model_makeWords_71 (by decide) ?_
        refine ev_goto (tgt := 13) d_Model_makeWords_73 (by decide) ?_
        refine ev_to (ih (nx W (k + 1) b) cur1 m1 R1 (by omega) hnx (fun h w hw => nx_nc h hw) hW1 hP1 (by omega) s1) ?_
        rintro o h' ⟨rfl, R', m', rfl, r1, r2, r3⟩
        rw [ee] at r1
        exact ⟨rfl, R', m', rfl, r1, by omega, r3⟩
      -- from 37 on
      have on37 : ∀ (cur1 : List Int32) (m1 : Nat) (R1 : Nat → Nat → Int32), wOk W I R1 → pIn P (upN ml 0 m1) v cur1 R1 → m1 ≤ m + 1 → sm [13, 14, 15, 16, 17] R0 R1 → cur1 ++ (w.2.2 ++ ((if w.1 = 2 then [93] else []) ++ ad_wT (nc (ad_sl W (nx W (k + 1) b) b)))) = cur ++ ad_wT (nc (ad_sl W k b)) → ev_E G m_Model_makeWords 37 [(0, .ref M), (1, .int (nI v)), (2, .int x), (3, .int (nI b)), (4, .int (nI k))] [] (mo_ov cI cZ h0 M I R1) (cn (fun h' => ∃ (R' : Nat → Nat → Int32) (m' : Nat), h' = mo_ov cI cZ h0 M I R' ∧ pOk (va_up P v (P v ++ [cur ++ ad_wT (nc (ad_sl W k b))])) (upN ml 0 m') R' ∧ m' ≤ m + iv (gN W) k b ∧ sm [13, 14, 15, 16, 17] R0 R')) := by
        intro cur1 m1 R1 hW1 hP1 g2 s1 ee
        refine ev_aload_n d_Model_makeWords_37 rfl rfl ?_
        refine ev_iload_n d_Model_makeWords_38 rfl rfl ?_
        refine ev_iload d_Model_makeWords_39 rfl ?_
        refine mo_Vn [.int (nI v), .int (nI k)] [] ca_Model_makeWords_207 d_Model_makeWords_41 rfl (Nat.le_of_ble_eq_true rfl) (c_Model_addWord hT hv7 hW1 hl hb qk hP1 (by rw [har, upN_at]; omega)) (fun h1 z => ?_)
        obtain ⟨R2, rfl, q1, q2⟩ := z
        rw [har, upN_at, upN_same] at q1
        have hW2 : wOk W I R2 := wOk_R hW1 (fun j j1 j2 => q2 j (by simp; omega))
        refine ev_aload_n d_Model_makeWords_44 rfl rfl ?_
        refine mo_get (fa_Model_31 rfl rfl) d_Model_makeWords_45 rfl ?_
        refine ev_iload d_Model_makeWords_48 rfl ?_
        refine mo_ald hT d_Model_makeWords_50 (by decide) i8 ?_
        refine ev_iconst (v := 2) d_Model_makeWords_51 (by decide) ?_
        rw [nI_clamp (by omega), (hW2.2.2.2 k w qk).1]
        refine ev_icmp_ne (tgt := 62) d_Model_makeWords_52 (by decide) (fun c_52 => ?_) (fun c_52 => ?_)
        · rw [if_neg c_52, List.nil_append, ← List.append_assoc] at ee
          exact on62 _ _ R2 hW2 q1 (by omega) (sm_tr s1 q2) ee
        · rw [if_pos c_52, ← List.append_assoc, ← List.append_assoc] at ee
          refine ev_aload_n d_Model_makeWords_55 rfl rfl ?_
          refine ev_iload_n d_Model_makeWords_56 rfl rfl ?_
          refine ev_bipush (v := 93) d_Model_makeWords_57 (by decide) ?_
          refine mo_Vn [.int (nI v), .int 93] [] ca_Model_makeWords_191 d_Model_makeWords_59 rfl (Nat.le_of_ble_eq_true rfl) (c_Model_add hT hv7 q1 (by rw [har, upN_at]; omega) 93) (fun h1 z => ?_)
          obtain ⟨R3, rfl, q3, q4⟩ := z
          rw [har, upN_at, upN_same] at q3
          exact on62 _ _ R3 (wOk_R hW2 (fun j j1 j2 => q4 j (by simp; omega))) q3 (by omega) (sm_tr (sm_tr s1 q2) q4) ee
      refine ev_aload_n d_Model_makeWords_19 rfl rfl ?_
      refine mo_get (fa_Model_31 rfl rfl) d_Model_makeWords_20 rfl ?_
      refine ev_iload d_Model_makeWords_23 rfl ?_
      refine mo_ald hT d_Model_makeWords_25 (by decide) i8 ?_
      refine ev_iconst (v := 2) d_Model_makeWords_26 (by decide) ?_
      rw [nI_clamp (by omega), (hW.2.2.2 k w qk).1]
      refine ev_icmp_ne (tgt := 37) d_Model_makeWords_27 (by decide) (fun c_27 => ?_) (fun c_27 => ?_)
      · exact on37 cur m R hW hP (by omega) hs (by rw [hsl, ad_wT, if_neg c_27, if_neg c_27]; rfl)
      · refine ev_aload_n d_Model_makeWords_30 rfl rfl ?_
        refine ev_iload_n d_Model_makeWords_31 rfl rfl ?_
        refine ev_bipush (v := 91) d_Model_makeWords_32 (by decide) ?_
        refine mo_Vn [.int (nI v), .int 91] [] ca_Model_makeWords_191 d_Model_makeWords_34 rfl (Nat.le_of_ble_eq_true rfl) (c_Model_add hT hv7 hP (by rw [har, upN_at]; omega) 91) (fun h1 z => ?_)
        obtain ⟨R1, rfl, q1, q2⟩ := z
        rw [har, upN_at, upN_same] at q1
        exact on37 _ _ R1 (wOk_R hW (fun j j1 j2 => q2 j (by simp; omega))) q1 (Nat.le_refl _) (sm_tr hs q2) (by rw [hsl, ad_wT, if_pos c_27, if_pos c_27, List.append_assoc])
theorem s_Model_makeWords (hT : (gl_t G)[0]? = some (cI, .int)) {v : Nat} (hv : v < 4) {R : Nat → Nat → Int32} (hW : wOk W I R) (hl : W.length ≤ 1501) (hb : (wB W).length ≤ 1600) {a b : Nat} (hab : a ≤ b) (hbW : b ≤ W.length) (hP : pOk P ml R) (hn : (P v).length < 1000) (hm : ml 0 + iv (gN W) a b ≤ 5890) : ct_E G m_Model_makeWords [.ref M, .int (nI v), .int (nI a), .int (nI b)] (mo_ov cI cZ h0 M I R) (cn (mkQ cI cZ h0 M I R P ml v (iv (gN W) a b) (ad_wT (nc (ad_sl W a b))))) := by
  have har : ar v = 0 := if_pos hv
  have hng := nx_ge W a b
  have hmo := iv_mono (gN W) (x := a) (x' := nx W a b) (y := b) hng
  refine ct_of (ws' := tb_all) rfl rfl (Nat.le_of_ble_eq_true rfl) ?_
  refine ev_aload_n d_Model_makeWords_0 rfl rfl ?_
  refine ev_iload_n d_Model_makeWords_1 rfl rfl ?_
  refine mo_Vn [.int (nI v)] [] ca_Model_makeWords_204 d_Model_makeWords_2 rfl (Nat.le_of_ble_eq_true rfl) (c_Model_beginPart hT hP (by omega) hn) (fun h1 z => ?_)
  obtain ⟨R2, rfl, q1, q2⟩ := z
  have hW2 : wOk W I R2 := wOk_R hW (fun j j1 j2 => q2 j (by simp; omega))
  refine ev_aload_n d_Model_makeWords_5 rfl rfl ?_
  refine ev_iload_n d_Model_makeWords_6 rfl rfl ?_
  refine ev_iload_n d_Model_makeWords_7 rfl rfl ?_
  refine mo_Vv [.int (nI a), .int (nI b)] [] ca_Model_makeWords_197 d_Model_makeWords_8 rfl (Nat.le_of_ble_eq_true rfl) (c_Model_next hT hW2 hl hbW (by omega)) ?_
  refine ev_istore d_Model_makeWords_11 (by decide) ?_
  refine ev_to (k_Model_makeWords (ml := ml) (R0 := R) hT hv hl hb hbW (b - nx W a b) (nx W a b) [] (ml 0) R2 (by have := nx_le W hab hbW; omega) (nx_le W hab hbW) (fun h w hw => nx_nc h hw) hW2 (by rw [upN_id rfl]; exact q1) (by omega) q2) ?_
  rintro o h' ⟨rfl, R', m', rfl, r1, r2, r3⟩
  rw [List.nil_append, ← (nx_sl hab hbW).2] at r1
  exact ⟨rfl, R', m', rfl, r1, by omega, r3⟩
/-- the comment at last, or none -/
def lcAt (W : Wds) (a b : Nat) (last : Int32) (d : List Int32) : Prop := (last = -1 ∧ d = []) ∨ ∃ j w, last = nI j ∧ a ≤ j ∧ j < b ∧ W[j]? = some w ∧ w.1 = 0 ∧ d = w.2.2
theorem s_Model_makeComment (hT : (gl_t G)[0]? = some (cI, .int)) {R : Nat → Nat → Int32} (hW : wOk W I R) (hl : W.length ≤ 1501) (hb : (wB W).length ≤ 1600) {a b : Nat} (hab : a ≤ b) (hbW : b ≤ W.length) (hP : pOk P ml R) (hn : (P 0).length < 1000) (hm : ml 0 + iv (gC W) a b ≤ 5890) : ct_E G m_Model_makeComment [.ref M, .int (nI a), .int (nI b)] (mo_ov cI cZ h0 M I R) (cn (mkQ cI cZ h0 M I R P ml 0 (iv (gC W) a b) (ad_cm (ad_sl W a b)))) := by
  have fin : ∀ (last : Int32) (k : Int32), lcAt W a b last (ad_cm (ad_sl W a b)) → ev_E G m_Model_makeComment 37 [(0, .ref M), (1, .int (nI a)), (2, .int (nI b)), (3, .int last), (4, .int k)] [] (mo_ov cI cZ h0 M I R) (cn (mkQ cI cZ h0 M I R P ml 0 (iv (gC W) a b) (ad_cm (ad_sl W a b)))) := by
    intro last k hlast
    have fin2 : ∀ (m : Nat) (R1 : Nat → Nat → Int32), pIn P (upN ml 0 m) 0 (ad_cm (ad_sl W a b)) R1 → m ≤ ml 0 + iv (gC W) a b → sm [13, 14, 15, 16, 17] R R1 → ev_E G m_Model_makeComment 53 [(0, .ref M), (1, .int (nI a)), (2, .int (nI b)), (3, .int last), (4, .int k)] [] (mo_ov cI cZ h0 M I R1) (cn (mkQ cI cZ h0 M I R P ml 0 (iv (gC W) a b) (ad_cm (ad_sl W a b)))) := by
      intro m R1 hP1 hm1 s1
      refine ev_aload_n d_Model_makeComment_53 rfl rfl ?_
      refine ev_iconst (v := 0) d_Model_makeComment_54 (by decide) ?_
      refine mo_Vn [.int (nI 0)] [] ca_Model_makeComment_210 d_Model_makeComment_55 rfl (Nat.le_of_ble_eq_true rfl) (c_Model_endPart (w := 0) hT (by decide) hP1) (fun h1 z => ?_)
      obtain ⟨R2, rfl, q1, q2⟩ := z
      refine ev_vret d_Model_makeComment_58 rfl ?_
      exact ⟨rfl, R2, m, rfl, q1, hm1, sm_tr s1 q2⟩
    refine ev_aload_n d_Model_makeComment_37 rfl rfl ?_
    refine ev_iconst (v := 0) d_Model_makeComment_38 (by decide) ?_
    refine mo_Vn [.int (nI 0)] [] ca_Model_makeComment_204 d_Model_makeComment_39 rfl (Nat.le_of_ble_eq_true rfl) (c_Model_beginPart (w := 0) hT hP (by decide) hn) (fun h1 z => ?_)
    obtain ⟨R2, rfl, q1, q2⟩ := z
    have hW2 : wOk W I R2 := wOk_R hW (fun j j1 j2 => q2 j (by simp; omega))
    refine ev_iload_n d_Model_makeComment_42 rfl rfl ?_
    refine ev_iconst (v := (-1)) d_Model_makeComment_43 (by decide) ?_
    rcases hlast with ⟨rfl, ed⟩ | ⟨j, w, rfl, j1, j2, j3, j4, ed⟩
    · refine ev_icmp_eq (tgt := 53) d_Model_makeComment_44 (by decide) (fun _ => ?_) (fun z => absurd rfl z)
      exact fin2 (ml 0) R2 (by rw [upN_id rfl, ed]; exact q1) (Nat.le_add_right _ _) q2
    · have hg := gC_at j3 j4
      have hone := iv_one (gC W) j1 j2
      refine ev_icmp_eq (tgt := 53) d_Model_makeComment_44 (by decide) (fun z => ?_) (fun _ => ?_)
      · have := nI_pos (n := j) (by omega)
        rw [z] at this
        exact absurd (by decide) this
      · refine ev_aload_n d_Model_makeComment_47 rfl rfl ?_
        refine ev_iconst (v := 0) d_Model_makeComment_48 (by decide) ?_
        refine ev_iload_n d_Model_makeComment_49 rfl rfl ?_
        refine mo_Vn [.int (nI 0), .int (nI j)] [] ca_Model_makeComment_207 d_Model_makeComment_50 rfl (Nat.le_of_ble_eq_true rfl) (c_Model_addWord (v := 0) (ml := ml) hT (by decide) hW2 hl hb j3 q1 (by show ml 0 + _ ≤ _; omega)) (fun h1 z => ?_)
        obtain ⟨R3, rfl, q3, q4⟩ := z
        exact fin2 (ml 0 + w.2.2.length) R3 (by rw [ed]; exact q3) (by omega) (sm_tr q2 q4)
  have loop : ∀ (n k : Nat) (last : Int32) (d : List Int32), b ≤ k + n → a ≤ k → k ≤ 1503 → lcAt W a b last d → ad_lc d (ad_sl W k b) = ad_cm (ad_sl W a b) → ev_E G m_Model_makeComment 12 [(0, .ref M), (1, .int (nI a)), (2, .int (nI b)), (3, .int last), (4, .int (nI k))] [] (mo_ov cI cZ h0 M I R) (cn (mkQ cI cZ h0 M I R P ml 0 (iv (gC W) a b) (ad_cm (ad_sl W a b)))) := by
    intro n
    induction n with
    | zero =>
      intro k last d hk hak hk2 hlast hd
      rw [sl_nil (show b ≤ k by omega), show ad_lc d [] = d from rfl] at hd
      subst hd
      refine ev_iload d_Model_makeComment_12 rfl ?_
      refine ev_iload_n d_Model_makeComment_14 rfl rfl ?_
      refine ev_icmp_ge (tgt := 37) d_Model_makeComment_15 (by decide) (fun _ => ?_) (fun z => absurd (nI_le (by omega) (by omega)) z)
      exact fin last _ hlast
    | succ n ih =>
      intro k last d hk hak hk2 hlast hd
      refine ev_iload d_Model_makeComment_12 rfl ?_
      refine ev_iload_n d_Model_makeComment_14 rfl rfl ?_
      refine ev_icmp_ge (tgt := 37) d_Model_makeComment_15 (by decide) (fun c_15 => ?_) (fun c_15 => ?_)
      · have hkb2 := (nI_leI (by omega) (by omega)).mp c_15
        rw [sl_nil hkb2, show ad_lc d [] = d from rfl] at hd
        subst hd
        exact fin last _ hlast
      · have hlt := lt_of_nge (by omega) c_15
        have qk : W[k]? = some W[k] := List.getElem?_eq_getElem (by omega)
        generalize W[k] = w at qk
        have r8 := (hW.2.2.2 k w qk).1
        have i8 : vp_in (nI k) (mo_len 8) := vp_in_nI (show k < 1501 by omega) (by decide)
        rw [sl_step hlt hbW qk, ad_lc] at hd
        refine ev_aload_n d_Model_makeComment_18 rfl rfl ?_
        refine mo_get (fa_Model_31 rfl rfl) d_Model_makeComment_19 rfl ?_
        refine ev_iload d_Model_makeComment_22 rfl ?_
        refine mo_ald hT d_Model_makeComment_24 (by decide) i8 ?_
        rw [nI_clamp (by omega), r8]
        refine ev_if_ne (tgt := 31) d_Model_makeComment_25 (by decide) (fun c_25 => ?_) (fun c_25 => ?_)
        · rw [if_neg c_25] at hd
          refine ev_iinc d_Model_makeComment_31 rfl (by decide) ?_
          refine ev_goto (tgt := 12) d_Model_makeComment_34 (by decide) ?_
          rw [show nI k + Int32.ofInt 1 = nI (k + 1) from nI_1 k]
          exact ih (k + 1) last d (by omega) (by omega) (by omega) hlast hd
        · rw [if_pos c_25] at hd
          refine ev_iload d_Model_makeComment_28 rfl ?_
          refine ev_istore_n d_Model_makeComment_30 rfl (by decide) ?_
          refine ev_iinc d_Model_makeComment_31 rfl (by decide) ?_
          refine ev_goto (tgt := 12) d_Model_makeComment_34 (by decide) ?_
          rw [show nI k + Int32.ofInt 1 = nI (k + 1) from nI_1 k]
          exact ih (k + 1) (nI k) w.2.2 (by omega) (by omega) (by omega) (Or.inr ⟨k, w, rfl, hak, hlt, qk, c_25, rfl⟩) hd
  have hng := nx_ge W a b
  have hnx := nx_le W hab hbW
  refine ct_of (ws' := tb_all) rfl rfl (Nat.le_of_ble_eq_true rfl) ?_
  refine ev_iconst (v := (-1)) d_Model_makeComment_0 (by decide) ?_
  refine ev_istore_n d_Model_makeComment_1 rfl (by decide) ?_
  refine ev_aload_n d_Model_makeComment_2 rfl rfl ?_
  refine ev_iload_n d_Model_makeComment_3 rfl rfl ?_
  refine ev_iload_n d_Model_makeComment_4 rfl rfl ?_
  refine mo_Vv [.int (nI a), .int (nI b)] [] ca_Model_makeComment_197 d_Model_makeComment_5 rfl (Nat.le_of_ble_eq_true rfl) (c_Model_next hT hW hl hbW (by omega)) ?_
  refine ev_iconst (v := 1) d_Model_makeComment_8 (by decide) ?_
  refine ev_iadd d_Model_makeComment_9 ?_
  rw [nI_1]
  refine ev_istore d_Model_makeComment_10 (by decide) ?_
  refine loop (b - (nx W a b + 1)) (nx W a b + 1) (-1) [] (by omega) (by omega) (by omega) (Or.inl ⟨rfl, rfl⟩) ?_
  unfold ad_cm
  congr 1
  unfold ad_sl nx
  rw [List.drop_drop]
  congr 1
end ADS
