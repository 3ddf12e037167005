theorem go_n {W : Wds} {a k : Nat} {w : Int32 × Int32 × List Int32} (hak : a ≤ k) (qk : W[k]? = some w) (s : adT) (hn : (!ad_an (ad_sl W a k) && ad_sep w) = false) : ad_go (W.drop k) s (nc (ad_sl W a k)) (ad_cm (ad_sl W a k)) (ad_an (ad_sl W a k)) = ad_go (W.drop (k + 1)) s (nc (ad_sl W a (k + 1))) (ad_cm (ad_sl W a (k + 1))) (ad_an (ad_sl W a (k + 1))) := by
  by_cases h : w.1 = 0
  · exact go_0 hak qk s h
  · exact go_w hak qk s h hn
theorem box_g (s : adT) (g : Wds) (cm : List Int32) : (ad_box s g cm).2.1 = s.2.1 ∧ (ad_box s g cm).2.2.2 = s.2.2.2 := by
  unfold ad_box
  cases g.isEmpty with
  | true => exact ⟨rfl, rfl⟩
  | false =>
    rw [cond_false]
    cases ad_mb g cm with
    | none => exact ⟨rfl, rfl⟩
    | some m => exact ⟨rfl, rfl⟩
theorem wIs_c {w : Int32 × Int32 × List Int32} {c : Int32} (h : wIs w c = true) : w.2.1 = c ∧ ¬ w.1 = 0 := by
  have := of_decide_eq_true h
  exact ⟨this.2, by rw [this.1]; decide⟩
theorem an1_c {w : Int32 × Int32 × List Int32} {c : Int32} (h : wIs w c = true) (h1 : ¬ c = 60) (h2 : ¬ c = 62) (an : Bool) : ad_an1 an w = an := by
  unfold ad_an1
  rw [wIs_ne h h1, wIs_ne h h2]
  cases an <;> rfl
/-- the parts that stand for what was read -/
def adH (s : adT) (P : Pts) (gs : List Int32) (I : Nat → Int32) : Prop := P 0 = s.1.map (fun m => m.1.1) ∧ P 1 = s.1.map (fun m => m.1.2.1) ∧ P 2 = s.1.map (fun m => m.1.2.2) ∧ P 3 = s.2.1 ∧ gs = s.1.map (fun m => m.2) ∧ I 24 = nI s.2.1.length ∧ I 25 = nI s.2.2.1
/-- within addresses: the segment from a on -/
def adJ (W : Wds) (P0 : Pts) (ml0 : Nat → Nat) (a : Nat) (s : adT) (I : Nat → Int32) (R : Nat → Nat → Int32) : Prop := ∃ (P : Pts) (ml : Nat → Nat) (gs : List Int32), pOk P ml R ∧ hol (R 18) 0 gs ∧ adH s P gs I ∧ (∀ w, 4 ≤ w → P w = P0 w) ∧ (∀ i, 1 ≤ i → ml i = ml0 i) ∧ ml 0 ≤ iv (gA W) 0 a ∧ 2 * s.1.length ≤ a ∧ (s.2.2.2 = -1 → 2 * s.2.1.length ≤ a) ∧ 2 * s.2.1.length ≤ a + 1
/-- what addresses leaves -/
def adK (cI cZ : ClassId) (h0 : hp_T) (M : Nat) (I0 : Nat → Int32) (R0 : Nat → Nat → Int32) (P0 : Pts) (ml0 : Nat → Nat) (s : adT) : Value → hp_T → Prop := fun v h' => ∃ (P : Pts) (ml : Nat → Nat) (gs : List Int32) (I : Nat → Int32) (R : Nat → Nat → Int32), v = .int (nI s.1.length) ∧ h' = mo_ov cI cZ h0 M I R ∧ pOk P ml R ∧ hol (R 18) 0 gs ∧ adH s P gs I ∧ (∀ w, 4 ≤ w → P w = P0 w) ∧ (∀ i, 1 ≤ i → ml i = ml0 i) ∧ sm [24, 25, 42, 43] I0 I ∧ sm [13, 14, 15, 16, 17, 18] R0 R
section ADS4
variable {G : gl_G} {cI cZ : ClassId} {h0 : hp_T} {M : Nat} {W : Wds}
theorem s_Model_beginGroup (hT : (gl_t G)[0]? = some (cI, .int)) {P : Pts} {ml : Nat → Nat} {I : Nat → Int32} {R : Nat → Nat → Int32} (hW : wOk W I R) (hl : W.length ≤ 1501) (hb : (wB W).length ≤ 1600) {a b : Nat} (hab : a ≤ b) (hbW : b ≤ W.length) (hP : pOk P ml R) (hn : (P 3).length < 1000) (hm : ml 0 + iv (gN W) a b ≤ 5890) : ct_E G m_Model_beginGroup [.ref M, .int (nI a), .int (nI b)] (mo_ov cI cZ h0 M I R) (cn (fun h' => ∃ (I' : Nat → Int32) (R' : Nat → Nat → Int32) (m : Nat), h' = mo_ov cI cZ h0 M I' R' ∧ pOk (va_up P 3 (P 3 ++ [bif ad_all (nc (ad_sl W a b)) then ad_nT false (nc (ad_sl W a b)) else []])) (upN ml 0 m) R' ∧ m ≤ ml 0 + iv (gN W) a b ∧ I' 24 = I 24 + 1 ∧ I' 25 = (bif ad_all (nc (ad_sl W a b)) then I 25 else I 25 + 1) ∧ sm [24, 25] I I' ∧ sm [13, 14, 15, 16, 17] R R')) := by
  generalize hNe : nc (ad_sl W a b) = N
  have hnx := nx_le W hab hbW
  refine ct_of (ws' := tb_all) rfl rfl (Nat.le_of_ble_eq_true rfl) ?_
  refine ev_aload_n d_Model_beginGroup_0 rfl rfl ?_
  refine ev_iload_n d_Model_beginGroup_1 rfl rfl ?_
  refine ev_iload_n d_Model_beginGroup_2 rfl rfl ?_
  refine mo_Vv [.int (nI a), .int (nI b)] [] ca_Model_beginGroup_233 d_Model_beginGroup_3 rfl (Nat.le_of_ble_eq_true rfl) (s_Model_isName hT hW hl hab hbW) ?_
  rw [hNe]
  refine ev_istore_n d_Model_beginGroup_6 rfl (by decide) ?_
  -- the count of groups at the end
  have fin : ∀ (nm : Int32) (I2 : Nat → Int32) (R2 : Nat → Nat → Int32) (m : Nat), pOk (va_up P 3 (P 3 ++ [bif ad_all N then ad_nT false N else []])) (upN ml 0 m) R2 → m ≤ ml 0 + iv (gN W) a b → I2 24 = I 24 → I2 25 = (bif ad_all N then I 25 else I 25 + 1) → sm [24, 25] I I2 → sm [13, 14, 15, 16, 17] R R2 → ev_E G m_Model_beginGroup 55 [(0, .ref M), (1, .int (nI a)), (2, .int (nI b)), (3, .int nm)] [] (mo_ov cI cZ h0 M I2 R2) (cn (fun h' => ∃ (I' : Nat → Int32) (R' : Nat → Nat → Int32) (m : Nat), h' = mo_ov cI cZ h0 M I' R' ∧ pOk (va_up P 3 (P 3 ++ [bif ad_all N then ad_nT false N else []])) (upN ml 0 m) R' ∧ m ≤ ml 0 + iv (gN W) a b ∧ I' 24 = I 24 + 1 ∧ I' 25 = (bif ad_all N then I 25 else I 25 + 1) ∧ sm [24, 25] I I' ∧ sm [13, 14, 15, 16, 17] R R')) := by
    intro nm I2 R2 m p1 p2 h24 h25 s1 s2
    refine ev_aload_n d_Model_beginGroup_55 rfl rfl ?_
    refine ev_dup d_Model_beginGroup_56 rfl ?_
    refine mo_get (fa_Model_248 rfl rfl) d_Model_beginGroup_57 rfl ?_
    refine ev_iconst (v := 1) d_Model_beginGroup_60 (by decide) ?_
    refine ev_iadd d_Model_beginGroup_61 ?_
    refine mo_put (fp_Model_248 rfl rfl) d_Model_beginGroup_62 (Nat.le_of_ble_eq_true rfl) rfl rfl rfl ?_
    refine ev_vret d_Model_beginGroup_65 rfl ?_
    refine ⟨rfl, _, R2, m, rfl, p1, p2, ?_, ?_, sm_tr s1 (sm_upd (by decide)), s2⟩
    · rw [h24, upd_at]
    · rw [upd_ne (by decide), h25]
  have empty : ∀ (nm : Int32) (I2 : Nat → Int32), (bif ad_all N then ad_nT false N else []) = [] → I2 24 = I 24 → I2 25 = (bif ad_all N then I 25 else I 25 + 1) → sm [24, 25] I I2 → ev_E G m_Model_beginGroup 45 [(0, .ref M), (1, .int (nI a)), (2, .int (nI b)), (3, .int nm)] [] (mo_ov cI cZ h0 M I2 R) (cn (fun h' => ∃ (I' : Nat → Int32) (R' : Nat → Nat → Int32) (m : Nat), h' = mo_ov cI cZ h0 M I' R' ∧ pOk (va_up P 3 (P 3 ++ [bif ad_all N then ad_nT false N else []])) (upN ml 0 m) R' ∧ m ≤ ml 0 + iv (gN W) a b ∧ I' 24 = I 24 + 1 ∧ I' 25 = (bif ad_all N then I 25 else I 25 + 1) ∧ sm [24, 25] I I' ∧ sm [13, 14, 15, 16, 17] R R')) := by
    intro nm I2 he h24 h25 s1
    refine ev_aload_n d_Model_beginGroup_45 rfl rfl ?_
    refine ev_iconst (v := 3) d_Model_beginGroup_46 (by decide) ?_
    refine mo_Vn [.int (nI 3)] [] ca_Model_beginGroup_204 d_Model_beginGroup_47 rfl (Nat.le_of_ble_eq_true rfl) (c_Model_beginPart (w := 3) hT hP (by decide) hn) (fun h1 z => ?_)
    obtain ⟨R1, rfl, p1, p2⟩ := z
    refine ev_aload_n d_Model_beginGroup_50 rfl rfl ?_
    refine ev_iconst (v := 3) d_Model_beginGroup_51 (by decide) ?_
    refine mo_Vn [.int (nI 3)] [] ca_Model_beginGroup_210 d_Model_beginGroup_52 rfl (Nat.le_of_ble_eq_true rfl) (c_Model_endPart (w := 3) hT (by decide) p1) (fun h1 z => ?_)
    obtain ⟨R2, rfl, p3, p4⟩ := z
    exact fin nm I2 R2 (ml 0) (by rw [upN_id rfl, he]; exact p3) (Nat.le_add_right _ _) h24 h25 s1 (sm_tr p2 p4)
  cases hal : ad_all N with
  | false =>
    rw [hal] at fin empty
    rw [Bool.false_and]
    have hNn : ¬ N = [] := fun z => by rw [z] at hal; cases hal
    have hlt : nx W a b < b := by
      rcases Nat.lt_or_ge (nx W a b) b with q | q
      · exact q
      · exact absurd (hNe.symm.trans ((nx_iff hab hbW).mp (by omega))) hNn
    refine ev_iload_n d_Model_beginGroup_7 rfl rfl ?_
    refine ev_if_ne (tgt := 31) d_Model_beginGroup_8 (by decide) (fun z => absurd rfl z) (fun _ => ?_)
    refine ev_aload_n d_Model_beginGroup_11 rfl rfl ?_
    refine ev_iload_n d_Model_beginGroup_12 rfl rfl ?_
    refine ev_iload_n d_Model_beginGroup_13 rfl rfl ?_
    refine mo_Vv [.int (nI a), .int (nI b)] [] ca_Model_beginGroup_197 d_Model_beginGroup_14 rfl (Nat.le_of_ble_eq_true rfl) (c_Model_next hT hW hl hbW (by omega)) ?_
    refine ev_iload_n d_Model_beginGroup_17 rfl rfl ?_
    refine ev_icmp_ge (tgt := 31) d_Model_beginGroup_18 (by decide) (fun z => absurd z (nI_ge hlt (by omega))) (fun _ => ?_)
    refine ev_aload_n d_Model_beginGroup_21 rfl rfl ?_
    refine ev_dup d_Model_beginGroup_22 rfl ?_
    refine mo_get (fa_Model_227 rfl rfl) d_Model_beginGroup_23 rfl ?_
    refine ev_iconst (v := 1) d_Model_beginGroup_26 (by decide) ?_
    refine ev_iadd d_Model_beginGroup_27 ?_
    refine mo_put (fp_Model_227 rfl rfl) d_Model_beginGroup_28 (Nat.le_of_ble_eq_true rfl) rfl rfl rfl ?_
    refine ev_iload_n d_Model_beginGroup_31 rfl rfl ?_
    refine ev_if_eq (tgt := 45) d_Model_beginGroup_32 (by decide) (fun _ => ?_) (fun z => absurd rfl z)
    exact empty _ _ rfl rfl (by rw [upd_at]; rfl) (sm_upd (by decide))
  | true =>
    rw [hal] at fin empty
    rw [Bool.true_and]
    by_cases hNn : N = []
    · have hnb : nx W a b = b := (nx_iff hab hbW).mpr (hNe.trans hNn)
      rw [decide_eq_false (fun z => by rw [hNn] at z; simp at z)]
      refine ev_iload_n d_Model_beginGroup_7 rfl rfl ?_
      refine ev_if_ne (tgt := 31) d_Model_beginGroup_8 (by decide) (fun z => absurd rfl z) (fun _ => ?_)
      refine ev_aload_n d_Model_beginGroup_11 rfl rfl ?_
      refine ev_iload_n d_Model_beginGroup_12 rfl rfl ?_
      refine ev_iload_n d_Model_beginGroup_13 rfl rfl ?_
      refine mo_Vv [.int (nI a), .int (nI b)] [] ca_Model_beginGroup_197 d_Model_beginGroup_14 rfl (Nat.le_of_ble_eq_true rfl) (c_Model_next hT hW hl hbW (by omega)) ?_
      refine ev_iload_n d_Model_beginGroup_17 rfl rfl ?_
      refine ev_icmp_ge (tgt := 31) d_Model_beginGroup_18 (by decide) (fun _ => ?_) (fun z => absurd (nI_le (by omega) (by omega)) z)
      refine ev_iload_n d_Model_beginGroup_31 rfl rfl ?_
      refine ev_if_eq (tgt := 45) d_Model_beginGroup_32 (by decide) (fun _ => ?_) (fun z => absurd rfl z)
      exact empty _ I (by rw [hNn]; rfl) rfl rfl (sm_rf _ _)
    · rw [decide_eq_true (show 0 < N.length by
        rcases Nat.eq_zero_or_pos N.length with z | z
        · exact absurd (List.length_eq_zero_iff.mp z) hNn
        · exact z)]
      refine ev_iload_n d_Model_beginGroup_7 rfl rfl ?_
      refine ev_if_ne (tgt := 31) d_Model_beginGroup_8 (by decide) (fun _ => ?_) (fun z => absurd (show (1 : Int32) = 0 from z) (by decide))
      refine ev_iload_n d_Model_beginGroup_31 rfl rfl ?_
      refine ev_if_eq (tgt := 45) d_Model_beginGroup_32 (by decide) (fun z => absurd (show (1 : Int32) = 0 from z) (by decide)) (fun _ => ?_)
      refine ev_aload_n d_Model_beginGroup_35 rfl rfl ?_
      refine ev_iconst (v := 3) d_Model_beginGroup_36 (by decide) ?_
      refine ev_iload_n d_Model_beginGroup_37 rfl rfl ?_
      refine ev_iload_n d_Model_beginGroup_38 rfl rfl ?_
      refine mo_Vn [.int (nI 3), .int (nI a), .int (nI b)] [] ca_Model_beginGroup_239 d_Model_beginGroup_39 rfl (Nat.le_of_ble_eq_true rfl) (s_Model_makeName (v := 3) hT (by decide) hW hl hb hab hbW hP hn hm) (fun h1 z => ?_)
      obtain ⟨R1, m, rfl, p1, p2, p3⟩ := z
      rw [hNe] at p1
      refine ev_goto (tgt := 55) d_Model_beginGroup_42 (by decide) ?_
      exact fin _ I R1 m p1 p2 rfl rfl (sm_rf _ _) p3
theorem J_end {P0 : Pts} {ml0 : Nat → Nat} {a : Nat} {s : adT} {I : Nat → Int32} {R : Nat → Nat → Int32} (c : Int32) (A : adJ W P0 ml0 a s I R) (h : 2 * s.2.1.length ≤ a) : adJ W P0 ml0 a (ad_end c s) I R := by
  obtain ⟨P, ml, gs, A1, A2, A3, A4, A5, A6, A7, A8, A9⟩ := A
  unfold ad_end
  by_cases hc : c = 59
  · rw [if_pos hc]
    exact ⟨P, ml, gs, A1, A2, A3, A4, A5, A6, A7, fun _ => h, A9⟩
  · rw [if_neg hc]
    exact ⟨P, ml, gs, A1, A2, A3, A4, A5, A6, A7, A8, A9⟩
/-- behind a mailbox taken -/
theorem J_box {P0 : Pts} {ml0 : Nat → Nat} {a k : Nat} {s : adT} {I : Nat → Int32} {R : Nat → Nat → Int32} {P : Pts} {ml : Nat → Nat} {gs : List Int32} (hak : a ≤ k) (hW : wOk W I R) (A1 : pOk P ml R) (A2 : hol (R 18) 0 gs) (A3 : adH s P gs I) (A4 : ∀ w, 4 ≤ w → P w = P0 w) (A5 : ∀ i, 1 ≤ i → ml i = ml0 i) (A6 : ml 0 ≤ iv (gA W) 0 a) (A7 : 2 * s.1.length ≤ a) (A8 : s.2.2.2 = -1 → 2 * s.2.1.length ≤ a) (A9 : 2 * s.2.1.length ≤ a + 1) {N : Wds} {cm : List Int32} {h' : hp_T} (z : tmQ cI cZ h0 M I R P ml gs s.2.2.2 a k (iv (gA W) a k) N cm h') : ∃ I2 R2, h' = mo_ov cI cZ h0 M I2 R2 ∧ wOk W I2 R2 ∧ sm [24, 25, 42, 43] I I2 ∧ sm [13, 14, 15, 16, 17, 18] R R2 ∧ adJ W P0 ml0 (k + 1) (ad_box s N cm) I2 R2 := by
  obtain ⟨I2, R2, rfl, t1, t2, t3⟩ := z
  have hcut := iv_cut (gA W) (x := 0) (m := a) (y := k) (Nat.zero_le _) hak
  have hmr := iv_monoR (gA W) (x := 0) (y := a) (y' := k + 1) (by omega)
  have hmr2 := iv_monoR (gA W) (x := 0) (y := k) (y' := k + 1) (by omega)
  have hW2 : wOk W I2 R2 := wOk_R (wOk_I hW (t1 12 (by decide)) (t1 18 (by decide))) (fun j j1 j2 => t2 j (by simp; omega))
  obtain ⟨B0, B1, B2, B3, B4, B5, B6⟩ := A3
  refine ⟨I2, R2, rfl, hW2, sm_mono t1 (by decide), t2, ?_⟩
  rcases t3 with ⟨hN, rfl, h25⟩ | ⟨hN, hmb, rfl, h25⟩ | ⟨hN, hlt, l0, l1, l2, m, hmb, h25, p1, p2, p3⟩
  · have e : ad_box s N cm = s := by unfold ad_box; rw [hN]; rfl
    rw [e]
    exact ⟨P, ml, gs, A1, A2, ⟨B0, B1, B2, B3, B4, by rw [t1 24 (by decide)]; exact B5, by rw [h25]; exact B6⟩, A4, A5, by omega, by omega, fun q => by have := A8 q; omega, by omega⟩
  · have e : ad_box s N cm = (s.1, s.2.1, s.2.2.1 + 1, s.2.2.2) := by
      unfold ad_box
      rw [hmb]
      cases N with
      | nil => exact absurd rfl hN
      | cons _ _ => rfl
    rw [e]
    exact ⟨P, ml, gs, A1, A2, ⟨B0, B1, B2, B3, B4, by rw [t1 24 (by decide)]; exact B5, by rw [h25, B6, nI_1]⟩, A4, A5, by omega, by show 2 * s.1.length ≤ _; omega, fun q => by have := A8 q; show 2 * s.2.1.length ≤ _; omega, by show 2 * s.2.1.length ≤ _; omega⟩
  · have e : ad_box s N cm = (s.1 ++ [((l0, l1, l2), s.2.2.2)], s.2.1, s.2.2.1, s.2.2.2) := by
      unfold ad_box
      rw [hmb]
      cases N with
      | nil => exact absurd rfl hN
      | cons _ _ => rfl
    rw [e]
    refine ⟨_, _, gs ++ [s.2.2.2], p1, p3, ⟨?_, ?_, ?_, ?_, ?_, by rw [t1 24 (by decide)]; exact B5, by rw [h25]; exact B6⟩, fun w hw => ?_, fun i hi => ?_, ?_, ?_, fun q => by have := A8 q; show 2 * s.2.1.length ≤ _; omega, by show 2 * s.2.1.length ≤ _; omega⟩
    · rw [up_ne (by decide), up_ne (by decide), va_up_self, B0, List.map_append]; rfl
    · rw [up_ne (by decide), va_up_self, B1, List.map_append]; rfl
    · rw [va_up_self, B2, List.map_append]; rfl
    · rw [up_ne (by decide), up_ne (by decide), up_ne (by decide)]; exact B3
    · rw [B4, List.map_append]; rfl
    · rw [up_ne (by omega), up_ne (by omega), up_ne (by omega)]; exact A4 w hw
    · rw [upN_ne (by omega)]; exact A5 i hi
    · rw [upN_at]; omega
    · show 2 * (s.1 ++ [((l0, l1, l2), s.2.2.2)]).length ≤ _
      rw [List.length_append, List.length_singleton]
      omega
theorem k_Model_addresses (hT : (gl_t G)[0]? = some (cI, .int)) (hl : W.length ≤ 1501) (hb : (wB W).length ≤ 1501) {P0 : Pts} {ml0 : Nat → Nat} {I0 : Nat → Int32} {R0 : Nat → Nat → Int32} {f : Int32} : ∀ (n k a : Nat) (s : adT) (I : Nat → Int32) (R : Nat → Nat → Int32), W.length ≤ k + n → k ≤ W.length → a ≤ k → wOk W I R → sm [24, 25, 42, 43] I0 I → sm [13, 14, 15, 16, 17, 18] R0 R → adJ W P0 ml0 a s I R →
    ev_E G m_Model_addresses 59 [(0, .ref M), (1, .int f), (2, .int s.2.2.2), (3, .int (nI a)), (4, .int (bI (ad_an (ad_sl W a k)))), (5, .int (nI k))] [] (mo_ov cI cZ h0 M I R) (cr (adK cI cZ h0 M I0 R0 P0 ml0 (ad_go (W.drop k) s (nc (ad_sl W a k)) (ad_cm (ad_sl W a k)) (ad_an (ad_sl W a k))))) := by
  have i15 : vp_in (1 : Int32) (mo_len 15) := pk_in 1 7 (by decide)
  have htot : iv (gA W) 0 W.length ≤ 4503 := by
    have := gA_sum W W.length (Nat.le_refl _)
    rw [List.take_length] at this
    omega
  -- behind the last word
  have last : ∀ (a : Nat) (s : adT) (I : Nat → Int32) (R : Nat → Nat → Int32), a ≤ W.length → wOk W I R → sm [24, 25, 42, 43] I0 I → sm [13, 14, 15, 16, 17, 18] R0 R → adJ W P0 ml0 a s I R → ev_E G m_Model_addresses 59 [(0, .ref M), (1, .int f), (2, .int s.2.2.2), (3, .int (nI a)), (4, .int (bI (ad_an (ad_sl W a W.length)))), (5, .int (nI W.length))] [] (mo_ov cI cZ h0 M I R) (cr (adK cI cZ h0 M I0 R0 P0 ml0 (ad_take 44 s (nc (ad_sl W a W.length)) (ad_cm (ad_sl W a W.length))))) := by
    intro a s I R hak hW sI sR A
    obtain ⟨P, ml, gs, A1, A2, A3, A4, A5, A6, A7, A8, A9⟩ := A
    have hcut := iv_cut (gA W) (x := 0) (m := a) (y := W.length) (Nat.zero_le _) hak
    have hP0 : (P 0).length = s.1.length := by rw [A3.1, List.length_map]
    have hP1 : (P 1).length = s.1.length := by rw [A3.2.1, List.length_map]
    have hP2 : (P 2).length = s.1.length := by rw [A3.2.2.1, List.length_map]
    have hgs : gs.length = s.1.length := by rw [A3.2.2.2.2.1, List.length_map]
    refine ev_iload d_Model_addresses_59 rfl ?_
    refine ev_aload_n d_Model_addresses_61 rfl rfl ?_
    refine mo_get (fa_Model_149 rfl rfl) d_Model_addresses_62 rfl ?_
    rw [hW.1]
    refine ev_icmp_gt (tgt := 291) d_Model_addresses_65 (by decide) (fun z => absurd z (nI_nlt (Nat.le_refl _) (by omega))) (fun _ => ?_)
    refine ev_iload d_Model_addresses_68 rfl ?_
    refine ev_aload_n d_Model_addresses_70 rfl rfl ?_
    refine mo_get (fa_Model_149 rfl rfl) d_Model_addresses_71 rfl ?_
    rw [hW.1]
    refine ev_icmp_ne (tgt := 81) d_Model_addresses_74 (by decide) (fun z => absurd rfl z) (fun _ => ?_)
    refine ev_iconst (v := 1) d_Model_addresses_77 (by decide) ?_
    refine ev_goto (tgt := 82) d_Model_addresses_78 (by decide) ?_
    refine ev_istore d_Model_addresses_82 (by decide) ?_
    refine ev_iload d_Model_addresses_84 rfl ?_
    refine ev_if_ne (tgt := 111) d_Model_addresses_86 (by decide) (fun _ => ?_) (fun z => absurd z (by decide))
    refine ev_iload d_Model_addresses_111 rfl ?_
    refine ev_if_ne (tgt := 130) d_Model_addresses_113 (by decide) (fun _ => ?_) (fun z => absurd z (by decide))
    refine ev_iload d_Model_addresses_130 rfl ?_
    refine ev_if_ne (tgt := 155) d_Model_addresses_132 (by decide) (fun _ => ?_) (fun z => absurd z (by decide))
    refine ev_iconst (v := 0) d_Model_addresses_155 (by decide) ?_
    refine ev_istore d_Model_addresses_156 (by decide) ?_
    refine ev_iload d_Model_addresses_158 rfl ?_
    refine ev_if_ne (tgt := 195) d_Model_addresses_160 (by decide) (fun _ => ?_) (fun z => absurd z (by decide))
    refine ev_iconst (v := 1) d_Model_addresses_195 (by decide) ?_
    refine ev_goto (tgt := 200) d_Model_addresses_196 (by decide) ?_
    refine ev_istore d_Model_addresses_200 (by decide) ?_
    refine ev_iload d_Model_addresses_202 rfl ?_
    refine ev_if_eq (tgt := 285) d_Model_addresses_204 (by decide) (fun z => absurd z (by decide)) (fun _ => ?_)
    refine ev_iload d_Model_addresses_207 rfl ?_
    refine ev_if_eq (tgt := 234) d_Model_addresses_209 (by decide) (fun _ => ?_) (fun z => absurd rfl z)
    refine ev_iload d_Model_addresses_234 rfl ?_
    refine ev_if_eq (tgt := 252) d_Model_addresses_236 (by decide) (fun _ => ?_) (fun z => absurd rfl z)
    refine ev_aload_n d_Model_addresses_252 rfl rfl ?_
    refine ev_iload_n d_Model_addresses_253 rfl rfl ?_
    refine ev_iload d_Model_addresses_254 rfl ?_
    refine ev_iload d_Model_addresses_256 rfl ?_
    refine ev_iload_n d_Model_addresses_258 rfl rfl ?_
    refine mo_Vn [.int (nI a), .int (nI W.length), .int (bI (ad_an (ad_sl W a W.length))), .int s.2.2.2] [] ca_Model_addresses_261 d_Model_addresses_259 rfl (Nat.le_of_ble_eq_true rfl) (s_Model_takeMailbox hT hW hl (by omega) hak (Nat.le_refl _) A1 A2 (by omega) (by omega) (by omega) (by omega) (by omega) s.2.2.2) (fun h1 z => ?_)
    obtain ⟨I2, R2, rfl, w1, w2, w3, w4⟩ := J_box hak hW A1 A2 A3 A4 A5 A6 A7 A8 A9 z
    refine ev_iload d_Model_addresses_262 rfl ?_
    refine ev_if_ne (tgt := 280) d_Model_addresses_264 (by decide) (fun _ => ?_) (fun z => absurd z (by decide))
    refine ev_iload d_Model_addresses_280 rfl ?_
    refine ev_iconst (v := 1) d_Model_addresses_282 (by decide) ?_
    refine ev_iadd d_Model_addresses_283 ?_
    rw [nI_1]
    refine ev_istore_n d_Model_addresses_284 rfl (by decide) ?_
    refine ev_iinc d_Model_addresses_285 rfl (by decide) ?_
    refine ev_goto (tgt := 59) d_Model_addresses_288 (by decide) ?_
    rw [show nI W.length + Int32.ofInt 1 = nI (W.length + 1) from nI_1 W.length]
    refine ev_iload d_Model_addresses_59 rfl ?_
    refine ev_aload_n d_Model_addresses_61 rfl rfl ?_
    refine mo_get (fa_Model_149 rfl rfl) d_Model_addresses_62 rfl ?_
    rw [w1.1]
    refine ev_icmp_gt (tgt := 291) d_Model_addresses_65 (by decide) (fun _ => ?_) (fun z => absurd (nI_lt (Nat.lt_succ_self _) (by omega)) z)
    obtain ⟨P', ml', gs', C1, C2, C3, C4, C5, -⟩ := w4
    have hP1' : (P' 1).length = (ad_box s (nc (ad_sl W a W.length)) (ad_cm (ad_sl W a W.length))).1.length := by rw [C3.2.1, List.length_map]
    refine ev_aload_n d_Model_addresses_291 rfl rfl ?_
    refine mo_get (fa_Model_52 rfl rfl) d_Model_addresses_292 rfl ?_
    refine ev_iconst (v := 1) d_Model_addresses_295 (by decide) ?_
    refine mo_ald hT d_Model_addresses_296 (by decide) i15 ?_
    rw [show (1 : Int32).toNatClampNeg = 1 from rfl, (C1.2 1 (by decide)).1, hP1']
    refine ev_iret d_Model_addresses_297 rfl ?_
    rw [show ad_take 44 s (nc (ad_sl W a W.length)) (ad_cm (ad_sl W a W.length)) = ad_box s (nc (ad_sl W a W.length)) (ad_cm (ad_sl W a W.length)) from rfl]
    exact ⟨_, rfl, P', ml', gs', I2, R2, rfl, rfl, C1, C2, C3, C4, C5, sm_tr sI w2, sm_tr sR w3⟩
  intro n
  induction n with
  | zero =>
    intro k a s I R hk hk2 hak hW sI sR A
    have e : k = W.length := by omega
    subst e
    rw [List.drop_length, ad_go]
    exact last a s I R hak hW sI sR A
  | succ n ih =>
    intro k a s I R hk hk2 hak hW sI sR A
    rcases Nat.lt_or_ge k W.length with hlt | hge
    · have qk : W[k]? = some W[k] := List.getElem?_eq_getElem hlt
      generalize W[k] = w at qk
      -- on, in the same segment
      have a285 : (!ad_an (ad_sl W a k) && ad_sep w) = false → ∀ (an' : Bool) (x7 x8 : Int32), an' = ad_an1 (ad_an (ad_sl W a k)) w → ev_E G m_Model_addresses 285 [(0, .ref M), (1, .int f), (2, .int s.2.2.2), (3, .int (nI a)), (4, .int (bI an')), (5, .int (nI k)), (6, .int 0), (7, .int x7), (8, .int x8)] [] (mo_ov cI cZ h0 M I R) (cr (adK cI cZ h0 M I0 R0 P0 ml0 (ad_go (W.drop k) s (nc (ad_sl W a k)) (ad_cm (ad_sl W a k)) (ad_an (ad_sl W a k))))) := by
        intro hn an' x7 x8 han
        rw [go_n hak qk s hn]
        refine ev_iinc d_Model_addresses_285 rfl (by decide) ?_
        refine ev_goto (tgt := 59) d_Model_addresses_288 (by decide) ?_
        refine ev_as [(0, .ref M), (1, .int f), (2, .int s.2.2.2), (3, .int (nI a)), (4, .int (bI (ad_an (ad_sl W a (k + 1))))), (5, .int (nI (k + 1)))] ⟨rfl, rfl, rfl, rfl, ?_, ?_, trivial⟩ (ih (k + 1) a s I R (by omega) (by omega) (by omega) hW sI sR A)
        · rw [sl_snoc hak qk, an_snoc, ← han]; rfl
        · show some (Value.int (nI k + Int32.ofInt 1)) = _
          rw [show nI k + Int32.ofInt 1 = nI (k + 1) from nI_1 k]
      -- behind a segment
      have a280 : ∀ (s' : adT) (x6 x7 x8 : Int32) (I1 : Nat → Int32) (R1 : Nat → Nat → Int32), ad_an (ad_sl W a k) = false → ad_sep w = true → s' = ad_take w.2.1 s (nc (ad_sl W a k)) (ad_cm (ad_sl W a k)) → wOk W I1 R1 → sm [24, 25, 42, 43] I0 I1 → sm [13, 14, 15, 16, 17, 18] R0 R1 → adJ W P0 ml0 (k + 1) s' I1 R1 → ev_E G m_Model_addresses 280 [(0, .ref M), (1, .int f), (2, .int s'.2.2.2), (3, .int (nI a)), (4, .int (bI false)), (5, .int (nI k)), (6, .int x6), (7, .int x7), (8, .int x8)] [] (mo_ov cI cZ h0 M I1 R1) (cr (adK cI cZ h0 M I0 R0 P0 ml0 (ad_go (W.drop k) s (nc (ad_sl W a k)) (ad_cm (ad_sl W a k)) (ad_an (ad_sl W a k))))) := by
        intro s' x6 x7 x8 I1 R1 han hsep hs' h2 h3 h4 h5
        have h0w : ¬ w.1 = 0 := fun z => by
          unfold ad_sep at hsep
          rw [wIs_0 z, wIs_0 z, wIs_0 z] at hsep
          cases hsep
        rw [go_s qk s h0w han hsep, ← hs']
        refine ev_iload d_Model_addresses_280 rfl ?_
        refine ev_iconst (v := 1) d_Model_addresses_282 (by decide) ?_
        refine ev_iadd d_Model_addresses_283 ?_
        rw [nI_1]
        refine ev_istore_n d_Model_addresses_284 rfl (by decide) ?_
        refine ev_iinc d_Model_addresses_285 rfl (by decide) ?_
        refine ev_goto (tgt := 59) d_Model_addresses_288 (by decide) ?_
        refine ev_as [(0, .ref M), (1, .int f), (2, .int s'.2.2.2), (3, .int (nI (k + 1))), (4, .int (bI (ad_an (ad_sl W (k + 1) (k + 1))))), (5, .int (nI (k + 1)))] ⟨rfl, rfl, rfl, rfl, ?_, ?_, trivial⟩ (ih (k + 1) (k + 1) s' I1 R1 (by omega) (by omega) (Nat.le_refl _) h2 h3 h4 h5)
        · rw [sl_nil (Nat.le_refl (k + 1))]; rfl
        · show some (Value.int (nI k + Int32.ofInt 1)) = _
          rw [show nI k + Int32.ofInt 1 = nI (k + 1) from nI_1 k]
      refine ev_iload d_Model_addresses_59 rfl ?_
      refine ev_aload_n d_Model_addresses_61 rfl rfl ?_
      refine mo_get (fa_Model_149 rfl rfl) d_Model_addresses_62 rfl ?_
      rw [hW.1]
      refine ev_icmp_gt (tgt := 291) d_Model_addresses_65 (by decide) (fun z => absurd z (nI_nlt hk2 (by omega))) (fun _ => ?_)
      refine ev_iload d_Model_addresses_68 rfl ?_
      refine ev_aload_n d_Model_addresses_70 rfl rfl ?_
      refine mo_get (fa_Model_149 rfl rfl) d_Model_addresses_71 rfl ?_
      rw [hW.1]
      refine ev_icmp_ne (tgt := 81) d_Model_addresses_74 (by decide) (fun _ => ?_) (fun z => absurd ((nI_eq (by omega) (by omega)).mp z) (by omega))
      refine ev_iconst (v := 0) d_Model_addresses_81 (by decide) ?_
      refine ev_istore d_Model_addresses_82 (by decide) ?_
      refine ev_iload d_Model_addresses_84 rfl ?_
      refine ev_if_ne (tgt := 111) d_Model_addresses_86 (by decide) (fun z => absurd rfl z) (fun _ => ?_)
      refine ev_aload_n d_Model_addresses_89 rfl rfl ?_
      refine ev_iload d_Model_addresses_90 rfl ?_
      refine ev_bipush (v := 60) d_Model_addresses_92 (by decide) ?_
      refine mo_Vv [.int (nI k), .int 60] [] ca_Model_addresses_200 d_Model_addresses_94 rfl (Nat.le_of_ble_eq_true rfl) (c_Model_is hT hW hl qk 60) ?_
      -- at 130, within as it is now
      have a130 : ∀ an' : Bool, an' = ad_an1 (ad_an (ad_sl W a k)) w → ev_E G m_Model_addresses 130 [(0, .ref M), (1, .int f), (2, .int s.2.2.2), (3, .int (nI a)), (4, .int (bI an')), (5, .int (nI k)), (6, .int 0)] [] (mo_ov cI cZ h0 M I R) (cr (adK cI cZ h0 M I0 R0 P0 ml0 (ad_go (W.drop k) s (nc (ad_sl W a k)) (ad_cm (ad_sl W a k)) (ad_an (ad_sl W a k))))) := by
        intro an' han
        obtain ⟨P, ml, gs, A1, A2, A3, A4, A5, A6, A7, A8, A9⟩ := id A
        have hcut := iv_cut (gA W) (x := 0) (m := a) (y := k) (Nat.zero_le _) hak
        have hmk := iv_monoR (gA W) (x := 0) (y := k) (y' := W.length) (by omega)
        have hmk1 := iv_monoR (gA W) (x := 0) (y := k) (y' := k + 1) (by omega)
        have hNA := iv_add (gNC W) a k
        have hP0 : (P 0).length = s.1.length := by rw [A3.1, List.length_map]
        have hP1 : (P 1).length = s.1.length := by rw [A3.2.1, List.length_map]
        have hP2 : (P 2).length = s.1.length := by rw [A3.2.2.1, List.length_map]
        have hP3 : (P 3).length = s.2.1.length := by rw [A3.2.2.2.1]
        have hgs : gs.length = s.1.length := by rw [A3.2.2.2.2.1, List.length_map]
        refine ev_iload d_Model_addresses_130 rfl ?_
        refine ev_if_ne (tgt := 155) d_Model_addresses_132 (by decide) (fun z => absurd rfl z) (fun _ => ?_)
        refine ev_iload d_Model_addresses_135 rfl ?_
        cases an' with
        | true =>
          have hn : (!ad_an (ad_sl W a k) && ad_sep w) = false := by
            cases hx : ad_an (ad_sl W a k) with
            | true => rfl
            | false =>
              rw [hx] at han
              have h60 : wIs w 60 = true := by
                unfold ad_an1 at han
                rw [Bool.false_and, Bool.or_false] at han
                exact han.symm
              unfold ad_sep
              rw [wIs_ne h60 (by decide), wIs_ne h60 (by decide), wIs_ne h60 (by decide)]
              rfl
          refine ev_if_ne (tgt := 155) d_Model_addresses_137 (by decide) (fun _ => ?_) (fun z => absurd (show (1 : Int32) = 0 from z) (by decide))
          refine ev_iconst (v := 0) d_Model_addresses_155 (by decide) ?_
          refine ev_istore d_Model_addresses_156 (by decide) ?_
          refine ev_iload d_Model_addresses_158 rfl ?_
          refine ev_if_ne (tgt := 195) d_Model_addresses_160 (by decide) (fun z => absurd rfl z) (fun _ => ?_)
          refine ev_iload d_Model_addresses_163 rfl ?_
          refine ev_if_ne (tgt := 199) d_Model_addresses_165 (by decide) (fun _ => ?_) (fun z => absurd (show (1 : Int32) = 0 from z) (by decide))
          refine ev_iconst (v := 0) d_Model_addresses_199 (by decide) ?_
          refine ev_istore d_Model_addresses_200 (by decide) ?_
          refine ev_iload d_Model_addresses_202 rfl ?_
          refine ev_if_eq (tgt := 285) d_Model_addresses_204 (by decide) (fun _ => ?_) (fun z => absurd rfl z)
          exact a285 hn true _ _ han
        | false =>
          refine ev_if_ne (tgt := 155) d_Model_addresses_137 (by decide) (fun z => absurd rfl z) (fun _ => ?_)
          refine ev_aload_n d_Model_addresses_140 rfl rfl ?_
          refine ev_iload d_Model_addresses_141 rfl ?_
          refine ev_bipush (v := 58) d_Model_addresses_143 (by decide) ?_
          refine mo_Vv [.int (nI k), .int 58] [] ca_Model_addresses_200 d_Model_addresses_145 rfl (Nat.le_of_ble_eq_true rfl) (c_Model_is hT hW hl qk 58) ?_
          cases h58 : wIs w 58 with
          | true =>
            have han0 : ad_an (ad_sl W a k) = false := by rw [an1_c h58 (by decide) (by decide)] at han; exact han.symm
            have hsep : ad_sep w = true := by unfold ad_sep; rw [h58]; simp
            have e58 := (wIs_c h58).1
            have h59 : wIs w 59 = false := wIs_ne h58 (by decide)
            -- the group is begun, or it is bad
            have a262 : ∀ (s' : adT) (x7 : Int32) (I1 : Nat → Int32) (R1 : Nat → Nat → Int32), s' = ad_col s (nc (ad_sl W a k)) → wOk W I1 R1 → sm [24, 25, 42, 43] I0 I1 → sm [13, 14, 15, 16, 17, 18] R0 R1 → adJ W P0 ml0 (k + 1) s' I1 R1 → ev_E G m_Model_addresses 262 [(0, .ref M), (1, .int f), (2, .int s'.2.2.2), (3, .int (nI a)), (4, .int (bI false)), (5, .int (nI k)), (6, .int 0), (7, .int x7), (8, .int 1)] [] (mo_ov cI cZ h0 M I1 R1) (cr (adK cI cZ h0 M I0 R0 P0 ml0 (ad_go (W.drop k) s (nc (ad_sl W a k)) (ad_cm (ad_sl W a k)) (ad_an (ad_sl W a k))))) := by
              intro s' x7 I1 R1 hs' hW1 s1 s2 k1
              refine ev_iload d_Model_addresses_262 rfl ?_
              refine ev_if_ne (tgt := 280) d_Model_addresses_264 (by decide) (fun z => absurd rfl z) (fun _ => ?_)
              refine ev_aload_n d_Model_addresses_267 rfl rfl ?_
              refine ev_iload d_Model_addresses_268 rfl ?_
              refine ev_bipush (v := 59) d_Model_addresses_270 (by decide) ?_
              refine mo_Vv [.int (nI k), .int 59] [] ca_Model_addresses_200 d_Model_addresses_272 rfl (Nat.le_of_ble_eq_true rfl) (c_Model_is hT hW1 hl qk 59) ?_
              rw [h59]
              refine ev_if_eq (tgt := 280) d_Model_addresses_275 (by decide) (fun _ => ?_) (fun z => absurd rfl z)
              exact a280 s' _ _ _ I1 R1 han0 hsep (by rw [hs', e58]; rfl) hW1 s1 s2 k1
            refine ev_if_eq (tgt := 155) d_Model_addresses_148 (by decide) (fun z => absurd (show (1 : Int32) = 0 from z) (by decide)) (fun _ => ?_)
            refine ev_iconst (v := 1) d_Model_addresses_151 (by decide) ?_
            refine ev_goto (tgt := 156) d_Model_addresses_152 (by decide) ?_
            refine ev_istore d_Model_addresses_156 (by decide) ?_
            refine ev_iload d_Model_addresses_158 rfl ?_
            refine ev_if_ne (tgt := 195) d_Model_addresses_160 (by decide) (fun z => absurd rfl z) (fun _ => ?_)
            refine ev_iload d_Model_addresses_163 rfl ?_
            refine ev_if_ne (tgt := 199) d_Model_addresses_165 (by decide) (fun z => absurd rfl z) (fun _ => ?_)
            refine ev_iload d_Model_addresses_168 rfl ?_
            refine ev_if_ne (tgt := 195) d_Model_addresses_170 (by decide) (fun _ => ?_) (fun z => absurd z (by decide))
            refine ev_iconst (v := 1) d_Model_addresses_195 (by decide) ?_
            refine ev_goto (tgt := 200) d_Model_addresses_196 (by decide) ?_
            refine ev_istore d_Model_addresses_200 (by decide) ?_
            refine ev_iload d_Model_addresses_202 rfl ?_
            refine ev_if_eq (tgt := 285) d_Model_addresses_204 (by decide) (fun z => absurd z (by decide)) (fun _ => ?_)
            refine ev_iload d_Model_addresses_207 rfl ?_
            refine ev_if_eq (tgt := 234) d_Model_addresses_209 (by decide) (fun z => absurd z (by decide)) (fun _ => ?_)
            refine ev_iload_n d_Model_addresses_212 rfl rfl ?_
            refine ev_iconst (v := (-1)) d_Model_addresses_213 (by decide) ?_
            by_cases hgN : s.2.2.2 = -1
            · refine ev_icmp_ne (tgt := 234) d_Model_addresses_214 (by decide) (fun z => absurd hgN z) (fun _ => ?_)
              have hA8 := A8 hgN
              refine ev_aload_n d_Model_addresses_217 rfl rfl ?_
              refine ev_iload_n d_Model_addresses_218 rfl rfl ?_
              refine ev_iload d_Model_addresses_219 rfl ?_
              refine mo_Vn [.int (nI a), .int (nI k)] [] ca_Model_addresses_258 d_Model_addresses_221 rfl (Nat.le_of_ble_eq_true rfl) (s_Model_beginGroup hT hW hl (by omega) hak (by omega) A1 (by omega) (by omega)) (fun h1 z => ?_)
              obtain ⟨I1, R1, m, rfl, p1, p2, p3, p33, p4, p5⟩ := z
              have h24 : I1 24 = nI (s.2.1.length + 1) := by rw [p3, A3.2.2.2.2.2.1, nI_1]
              have hW1 : wOk W I1 R1 := wOk_R (wOk_I hW (p4 12 (by decide)) (p4 18 (by decide))) (fun j j1 j2 => p5 j (by simp; omega))
              have hcol : ad_col s (nc (ad_sl W a k)) = (s.1, s.2.1 ++ [bif ad_all (nc (ad_sl W a k)) then ad_nT false (nc (ad_sl W a k)) else []], bif ad_all (nc (ad_sl W a k)) then s.2.2.1 else s.2.2.1 + 1, nI s.2.1.length) := if_pos hgN
              refine ev_aload_n d_Model_addresses_224 rfl rfl ?_
              refine mo_get (fa_Model_248 rfl rfl) d_Model_addresses_225 rfl ?_
              rw [h24]
              refine ev_iconst (v := 1) d_Model_addresses_228 (by decide) ?_
              refine ev_isub d_Model_addresses_229 ?_
              rw [show nI (s.2.1.length + 1) - 1 = nI s.2.1.length from nI_pred _]
              refine ev_istore_n d_Model_addresses_230 rfl (by decide) ?_
              refine ev_goto (tgt := 262) d_Model_addresses_231 (by decide) ?_
              refine a262 (s.1, s.2.1 ++ [bif ad_all (nc (ad_sl W a k)) then ad_nT false (nc (ad_sl W a k)) else []], bif ad_all (nc (ad_sl W a k)) then s.2.2.1 else s.2.2.1 + 1, nI s.2.1.length) 1 I1 R1 hcol.symm hW1 (sm_tr sI (sm_mono p4 (by decide))) (sm_tr sR (sm_mono p5 (by decide))) ⟨_, _, gs, p1, by rw [p5 18 (by decide)]; exact A2, ⟨?_, ?_, ?_, ?_, A3.2.2.2.2.1, ?_, ?_⟩, fun w hw => ?_, fun i hi => ?_, ?_, ?_, fun z => ?_, ?_⟩
              · rw [up_ne (by decide)]; exact A3.1
              · rw [up_ne (by decide)]; exact A3.2.1
              · rw [up_ne (by decide)]; exact A3.2.2.1
              · rw [va_up_self, A3.2.2.2.1]
              · rw [h24, List.length_append]; rfl
              · rw [p33, A3.2.2.2.2.2.2]
                cases ad_all (nc (ad_sl W a k)) with
                | true => rfl
                | false => exact nI_1 _
              · rw [up_ne (by omega)]; exact A4 w hw
              · rw [upN_ne (by omega)]; exact A5 i hi
              · rw [upN_at]; omega
              · show 2 * s.1.length ≤ _; omega
              · have := nI_pos (n := s.2.1.length) (by omega)
                rw [show nI s.2.1.length = -1 from z] at this
                exact absurd (by decide) this
              · show 2 * (s.2.1 ++ [_]).length ≤ _
                rw [List.length_append, List.length_singleton]
                omega
            · refine ev_icmp_ne (tgt := 234) d_Model_addresses_214 (by decide) (fun _ => ?_) (fun z => absurd z hgN)
              have hcol : ad_col s (nc (ad_sl W a k)) = (s.1, s.2.1, s.2.2.1 + 1, s.2.2.2) := if_neg hgN
              refine ev_iload d_Model_addresses_234 rfl ?_
              refine ev_if_eq (tgt := 252) d_Model_addresses_236 (by decide) (fun z => absurd z (by decide)) (fun _ => ?_)
              refine ev_aload_n d_Model_addresses_239 rfl rfl ?_
              refine ev_dup d_Model_addresses_240 rfl ?_
              refine mo_get (fa_Model_227 rfl rfl) d_Model_addresses_241 rfl ?_
              refine ev_iconst (v := 1) d_Model_addresses_244 (by decide) ?_
              refine ev_iadd d_Model_addresses_245 ?_
              refine mo_put (fp_Model_227 rfl rfl) d_Model_addresses_246 (Nat.le_of_ble_eq_true rfl) rfl rfl rfl ?_
              refine ev_goto (tgt := 262) d_Model_addresses_249 (by decide) ?_
              refine a262 (s.1, s.2.1, s.2.2.1 + 1, s.2.2.2) 1 _ R hcol.symm (wOk_I hW rfl rfl) (sm_tr sI (sm_upd (by decide))) sR ⟨P, ml, gs, A1, A2, ⟨A3.1, A3.2.1, A3.2.2.1, A3.2.2.2.1, A3.2.2.2.2.1, A3.2.2.2.2.2.1, ?_⟩, A4, A5, by omega, by show 2 * s.1.length ≤ _; omega, fun z => absurd z hgN, by show 2 * s.2.1.length ≤ _; omega⟩
              rw [upd_at, A3.2.2.2.2.2.2, nI_1]
          | false =>
            refine ev_if_eq (tgt := 155) d_Model_addresses_148 (by decide) (fun _ => ?_) (fun z => absurd rfl z)
            refine ev_iconst (v := 0) d_Model_addresses_155 (by decide) ?_
            refine ev_istore d_Model_addresses_156 (by decide) ?_
            refine ev_iload d_Model_addresses_158 rfl ?_
            refine ev_if_ne (tgt := 195) d_Model_addresses_160 (by decide) (fun z => absurd rfl z) (fun _ => ?_)
            refine ev_iload d_Model_addresses_163 rfl ?_
            refine ev_if_ne (tgt := 199) d_Model_addresses_165 (by decide) (fun z => absurd rfl z) (fun _ => ?_)
            refine ev_iload d_Model_addresses_168 rfl ?_
            refine ev_if_ne (tgt := 195) d_Model_addresses_170 (by decide) (fun z => absurd rfl z) (fun _ => ?_)
            have ends : ∀ c : Int32, wIs w c = true → (c = 44 ∨ c = 59) → ev_E G m_Model_addresses 195 [(0, .ref M), (1, .int f), (2, .int s.2.2.2), (3, .int (nI a)), (4, .int (bI false)), (5, .int (nI k)), (6, .int 0), (7, .int 0)] [] (mo_ov cI cZ h0 M I R) (cr (adK cI cZ h0 M I0 R0 P0 ml0 (ad_go (W.drop k) s (nc (ad_sl W a k)) (ad_cm (ad_sl W a k)) (ad_an (ad_sl W a k))))) := by
              intro c hc hc2
              have n60 : ¬ c = 60 := by rcases hc2 with z | z <;> (rw [z]; decide)
              have n62 : ¬ c = 62 := by rcases hc2 with z | z <;> (rw [z]; decide)
              have n58 : ¬ c = 58 := by rcases hc2 with z | z <;> (rw [z]; decide)
              have han0 : ad_an (ad_sl W a k) = false := by rw [an1_c hc n60 n62] at han; exact han.symm
              have hsep : ad_sep w = true := by
                unfold ad_sep
                rcases hc2 with z | z
                · rw [z] at hc; rw [hc]; rfl
                · rw [z] at hc; rw [hc]; simp
              have ec := (wIs_c hc).1
              have htk : ad_take w.2.1 s (nc (ad_sl W a k)) (ad_cm (ad_sl W a k)) = ad_end c (ad_box s (nc (ad_sl W a k)) (ad_cm (ad_sl W a k))) := by
                unfold ad_take
                rw [ec, if_neg n58]
              obtain ⟨bx1, bx2⟩ := box_g s (nc (ad_sl W a k)) (ad_cm (ad_sl W a k))
              refine ev_iconst (v := 1) d_Model_addresses_195 (by decide) ?_
              refine ev_goto (tgt := 200) d_Model_addresses_196 (by decide) ?_
              refine ev_istore d_Model_addresses_200 (by decide) ?_
              refine ev_iload d_Model_addresses_202 rfl ?_
              refine ev_if_eq (tgt := 285) d_Model_addresses_204 (by decide) (fun z => absurd z (by decide)) (fun _ => ?_)
              refine ev_iload d_Model_addresses_207 rfl ?_
              refine ev_if_eq (tgt := 234) d_Model_addresses_209 (by decide) (fun _ => ?_) (fun z => absurd rfl z)
              refine ev_iload d_Model_addresses_234 rfl ?_
              refine ev_if_eq (tgt := 252) d_Model_addresses_236 (by decide) (fun _ => ?_) (fun z => absurd rfl z)
              refine ev_aload_n d_Model_addresses_252 rfl rfl ?_
              refine ev_iload_n d_Model_addresses_253 rfl rfl ?_
              refine ev_iload d_Model_addresses_254 rfl ?_
              refine ev_iload d_Model_addresses_256 rfl ?_
              refine ev_iload_n d_Model_addresses_258 rfl rfl ?_
              have tmc := s_Model_takeMailbox (cZ := cZ) (h0 := h0) (M := M) (G := G) hT hW hl (by omega) hak (by omega) A1 A2 (by omega) (by omega) (by omega) (by omega) (by omega) s.2.2.2
              rw [han0] at tmc
              refine mo_Vn [.int (nI a), .int (nI k), .int (bI false), .int s.2.2.2] [] ca_Model_addresses_261 d_Model_addresses_259 rfl (Nat.le_of_ble_eq_true rfl) (tmc) (fun h1 z => ?_)
              obtain ⟨I2, R2, rfl, w1, w2, w3, w4⟩ := J_box hak hW A1 A2 A3 A4 A5 A6 A7 A8 A9 z
              have w5 := J_end c w4 (by rw [bx1]; omega)
              refine ev_iload d_Model_addresses_262 rfl ?_
              refine ev_if_ne (tgt := 280) d_Model_addresses_264 (by decide) (fun z => absurd rfl z) (fun _ => ?_)
              refine ev_aload_n d_Model_addresses_267 rfl rfl ?_
              refine ev_iload d_Model_addresses_268 rfl ?_
              refine ev_bipush (v := 59) d_Model_addresses_270 (by decide) ?_
              refine mo_Vv [.int (nI k), .int 59] [] ca_Model_addresses_200 d_Model_addresses_272 rfl (Nat.le_of_ble_eq_true rfl) (c_Model_is hT w1 hl qk 59) ?_
              rcases hc2 with z | z
              · subst z
                rw [wIs_ne hc (by decide)]
                refine ev_if_eq (tgt := 280) d_Model_addresses_275 (by decide) (fun _ => ?_) (fun z => absurd rfl z)
                rw [← bx2]
                exact a280 (ad_box s (nc (ad_sl W a k)) (ad_cm (ad_sl W a k))) _ _ _ I2 R2 han0 hsep htk.symm w1 (sm_tr sI w2) (sm_tr sR w3) w4
              · subst z
                rw [hc]
                refine ev_if_eq (tgt := 280) d_Model_addresses_275 (by decide) (fun z => absurd (show (1 : Int32) = 0 from z) (by decide)) (fun _ => ?_)
                refine ev_iconst (v := (-1)) d_Model_addresses_278 (by decide) ?_
                refine ev_istore_n d_Model_addresses_279 rfl (by decide) ?_
                exact a280 (ad_end 59 (ad_box s (nc (ad_sl W a k)) (ad_cm (ad_sl W a k)))) _ _ _ I2 R2 han0 hsep htk.symm w1 (sm_tr sI w2) (sm_tr sR w3) w5
            refine ev_aload_n d_Model_addresses_173 rfl rfl ?_
            refine ev_iload d_Model_addresses_174 rfl ?_
            refine ev_bipush (v := 44) d_Model_addresses_176 (by decide) ?_
            refine mo_Vv [.int (nI k), .int 44] [] ca_Model_addresses_200 d_Model_addresses_178 rfl (Nat.le_of_ble_eq_true rfl) (c_Model_is hT hW hl qk 44) ?_
            cases h44 : wIs w 44 with
            | true =>
              refine ev_if_ne (tgt := 195) d_Model_addresses_181 (by decide) (fun _ => ?_) (fun z => absurd (show (1 : Int32) = 0 from z) (by decide))
              exact ends 44 h44 (Or.inl rfl)
            | false =>
              refine ev_if_ne (tgt := 195) d_Model_addresses_181 (by decide) (fun z => absurd rfl z) (fun _ => ?_)
              refine ev_aload_n d_Model_addresses_184 rfl rfl ?_
              refine ev_iload d_Model_addresses_185 rfl ?_
              refine ev_bipush (v := 59) d_Model_addresses_187 (by decide) ?_
              refine mo_Vv [.int (nI k), .int 59] [] ca_Model_addresses_200 d_Model_addresses_189 rfl (Nat.le_of_ble_eq_true rfl) (c_Model_is hT hW hl qk 59) ?_
              cases h59 : wIs w 59 with
              | true =>
                refine ev_if_eq (tgt := 199) d_Model_addresses_192 (by decide) (fun z => absurd (show (1 : Int32) = 0 from z) (by decide)) (fun _ => ?_)
                exact ends 59 h59 (Or.inr rfl)
              | false =>
                refine ev_if_eq (tgt := 199) d_Model_addresses_192 (by decide) (fun _ => ?_) (fun z => absurd rfl z)
                refine ev_iconst (v := 0) d_Model_addresses_199 (by decide) ?_
                refine ev_istore d_Model_addresses_200 (by decide) ?_
                refine ev_iload d_Model_addresses_202 rfl ?_
                refine ev_if_eq (tgt := 285) d_Model_addresses_204 (by decide) (fun _ => ?_) (fun z => absurd rfl z)
                exact a285 (by unfold ad_sep; rw [h44, h59, h58]; cases ad_an (ad_sl W a k) <;> rfl) false _ _ han
      -- at 111: no < that opens
      have a111 : (wIs w 60 = true → ad_an (ad_sl W a k) = true) → ev_E G m_Model_addresses 111 [(0, .ref M), (1, .int f), (2, .int s.2.2.2), (3, .int (nI a)), (4, .int (bI (ad_an (ad_sl W a k)))), (5, .int (nI k)), (6, .int 0)] [] (mo_ov cI cZ h0 M I R) (cr (adK cI cZ h0 M I0 R0 P0 ml0 (ad_go (W.drop k) s (nc (ad_sl W a k)) (ad_cm (ad_sl W a k)) (ad_an (ad_sl W a k))))) := by
        intro h60
        refine ev_iload d_Model_addresses_111 rfl ?_
        refine ev_if_ne (tgt := 130) d_Model_addresses_113 (by decide) (fun z => absurd rfl z) (fun _ => ?_)
        refine ev_aload_n d_Model_addresses_116 rfl rfl ?_
        refine ev_iload d_Model_addresses_117 rfl ?_
        refine ev_bipush (v := 62) d_Model_addresses_119 (by decide) ?_
        refine mo_Vv [.int (nI k), .int 62] [] ca_Model_addresses_200 d_Model_addresses_121 rfl (Nat.le_of_ble_eq_true rfl) (c_Model_is hT hW hl qk 62) ?_
        cases h62 : wIs w 62 with
        | true =>
          refine ev_if_eq (tgt := 130) d_Model_addresses_124 (by decide) (fun z => absurd (show (1 : Int32) = 0 from z) (by decide)) (fun _ => ?_)
          refine ev_iconst (v := 0) d_Model_addresses_127 (by decide) ?_
          refine ev_istore d_Model_addresses_128 (by decide) ?_
          refine a130 false ?_
          unfold ad_an1
          rw [h62, wIs_ne h62 (by decide)]
          cases ad_an (ad_sl W a k) <;> rfl
        | false =>
          refine ev_if_eq (tgt := 130) d_Model_addresses_124 (by decide) (fun _ => ?_) (fun z => absurd rfl z)
          refine a130 (ad_an (ad_sl W a k)) ?_
          unfold ad_an1
          rw [h62]
          cases hx : wIs w 60 with
          | true => rw [h60 hx]; rfl
          | false => cases ad_an (ad_sl W a k) <;> rfl
      cases h60 : wIs w 60 with
      | true =>
        refine ev_if_eq (tgt := 111) d_Model_addresses_97 (by decide) (fun z => absurd (show (1 : Int32) = 0 from z) (by decide)) (fun _ => ?_)
        refine ev_iload d_Model_addresses_100 rfl ?_
        cases hx : ad_an (ad_sl W a k) with
        | false =>
          rw [hx] at a130
          refine ev_if_ne (tgt := 111) d_Model_addresses_102 (by decide) (fun z => absurd rfl z) (fun _ => ?_)
          refine ev_iconst (v := 1) d_Model_addresses_105 (by decide) ?_
          refine ev_istore d_Model_addresses_106 (by decide) ?_
          refine ev_goto (tgt := 130) d_Model_addresses_108 (by decide) ?_
          exact a130 true (by unfold ad_an1; rw [h60]; rfl)
        | true =>
          rw [hx] at a111
          refine ev_if_ne (tgt := 111) d_Model_addresses_102 (by decide) (fun _ => ?_) (fun z => absurd (show (1 : Int32) = 0 from z) (by decide))
          exact a111 (fun _ => rfl)
      | false =>
        refine ev_if_eq (tgt := 111) d_Model_addresses_97 (by decide) (fun _ => ?_) (fun z => absurd rfl z)
        exact a111 (fun z => by rw [h60] at z; cases z)
    · have e : k = W.length := by omega
      subst e
      rw [List.drop_length, ad_go]
      exact last a s I R hak hW sI sR A
/-- what addresses leaves of a field -/
def adF (cI cZ : ClassId) (h0 : hp_T) (M : Nat) (I : Nat → Int32) (R : Nat → Nat → Int32) (P0 : Pts) (s : adT) : Value → hp_T → Prop := fun v h' => ∃ (P : Pts) (ml : Nat → Nat) (gs : List Int32) (I' : Nat → Int32) (R' : Nat → Nat → Int32), v = .int (nI s.1.length) ∧ h' = mo_ov cI cZ h0 M I' R' ∧ pOk P ml R' ∧ hol (R' 18) 0 gs ∧ adH s P gs I' ∧ (∀ w, 4 ≤ w → P w = P0 w) ∧ I' 0 = 0 ∧ sm [0, 12, 18, 24, 25, 39, 40, 41, 42, 43] I I' ∧ sm [8, 9, 10, 11, 12, 13, 14, 15, 16, 17, 18] R R'
theorem s_Model_addresses (hT : (gl_t G)[0]? = some (cI, .int)) {I : Nat → Int32} {R : Nat → Nat → Int32} {P : Pts} {ml : Nat → Nat} {F : Flds} (hF : flds F R) (hI4 : I 4 = nI F.length) (hF40 : F.length ≤ 40) (hk : (fK F).length ≤ 1501) (hP : pOk P ml R) (f : Int32) : ct_E G m_Model_addresses [.ref M, .int f] (mo_ov cI cZ h0 M I R) (cr (fun v h' => (sp_isField (nI F.length) f = 0 ∧ v = .int 0 ∧ h' = mo_ov cI cZ h0 M (upd I 0 1) R) ∨ ∃ (j : Nat) (q : List Int32 × List Int32), f = nI j ∧ F[j]? = some q ∧ adF cI cZ h0 M I R P (ad_S (wcut false q.2.length q.2)) v h')) := by
  refine ct_of (ws' := tb_all) rfl rfl (Nat.le_of_ble_eq_true rfl) ?_
  refine ev_aload_n d_Model_addresses_0 rfl rfl ?_
  refine ev_aload_n d_Model_addresses_1 rfl rfl ?_
  refine ev_iload_n d_Model_addresses_2 rfl rfl ?_
  refine mo_Vv [.int f] [.ref M] ca_Model_addresses_137 d_Model_addresses_3 rfl (Nat.le_of_ble_eq_true rfl) (c_Model_isField f) ?_
  rw [hI4]
  refine ev_if_eq (tgt := 13) d_Model_addresses_6 (by decide) (fun c_6 => ?_) (fun c_6 => ?_)
  · refine ev_iconst (v := 1) d_Model_addresses_13 (by decide) ?_
    refine mo_put (fp_Model_99 rfl rfl) d_Model_addresses_14 (Nat.le_of_ble_eq_true rfl) rfl rfl rfl ?_
    refine ev_aload_n d_Model_addresses_17 rfl rfl ?_
    refine mo_get (fa_Model_99 rfl rfl) d_Model_addresses_18 rfl ?_
    refine ev_if_eq (tgt := 26) d_Model_addresses_21 (by decide) (fun z => absurd (show (1 : Int32) = 0 from z) (by decide)) (fun _ => ?_)
    refine ev_iconst (v := 0) d_Model_addresses_24 (by decide) ?_
    refine ev_iret d_Model_addresses_25 rfl ?_
    exact ⟨_, rfl, Or.inl ⟨c_6, rfl, rfl⟩⟩
  · obtain ⟨j, hj, rfl⟩ := isF_1 (by omega) c_6
    have hq : F[j]? = some F[j] := List.getElem?_eq_getElem hj
    generalize F[j] = q at hq
    have hqv : q.2.length ≤ 1501 := by
      obtain ⟨na, va, r3, r5, b1, b2, n1, n2⟩ := flds_name hF hq
      omega
    refine ev_iconst (v := 0) d_Model_addresses_9 (by decide) ?_
    refine ev_goto (tgt := 14) d_Model_addresses_10 (by decide) ?_
    refine mo_put (fp_Model_99 rfl rfl) d_Model_addresses_14 (Nat.le_of_ble_eq_true rfl) rfl rfl rfl ?_
    refine ev_aload_n d_Model_addresses_17 rfl rfl ?_
    refine mo_get (fa_Model_99 rfl rfl) d_Model_addresses_18 rfl ?_
    refine ev_if_eq (tgt := 26) d_Model_addresses_21 (by decide) (fun _ => ?_) (fun z => absurd rfl z)
    refine ev_aload_n d_Model_addresses_26 rfl rfl ?_
    refine ev_iload_n d_Model_addresses_27 rfl rfl ?_
    refine ev_iconst (v := 0) d_Model_addresses_28 (by decide) ?_
    refine mo_Vn [.int (nI j), .int (bI false)] [] ca_Model_addresses_251 d_Model_addresses_29 rfl (Nat.le_of_ble_eq_true rfl) (c_Model_cut hT hF hF40 hk hq false) (fun h1 z => ?_)
    obtain ⟨I1, R1, rfl, w1, w2, w3, w4⟩ := z
    obtain ⟨-, wl, wb⟩ := wcut_len false q.2.length q.2 (Nat.le_refl _)
    generalize hWc : wcut false q.2.length q.2 = W at w1 wl wb
    have hP1 : pOk P ml R1 := pOk_R hP (fun j j1 j2 => w4 j (by simp; omega))
    refine ev_aload_n d_Model_addresses_32 rfl rfl ?_
    refine ev_iconst (v := 0) d_Model_addresses_33 (by decide) ?_
    refine ev_iconst (v := 3) d_Model_addresses_34 (by decide) ?_
    refine ev_iconst (v := 0) d_Model_addresses_35 (by decide) ?_
    refine mo_Vn [.int (nI 0), .int (nI 3), .int (nI 0)] [] ca_Model_addresses_255 d_Model_addresses_36 rfl (Nat.le_of_ble_eq_true rfl) (c_Model_forget hT hP1 (f := 0) (l := 3) (a := 0) (by decide) (by decide) (by decide) (by decide +kernel)) (fun h1 z => ?_)
    obtain ⟨R2, rfl, f1, f2⟩ := z
    have hW2 : wOk W (upd (upd I1 24 0) 25 0) R2 := wOk_R (wOk_I w1 rfl rfl) (fun j j1 j2 => f2 j (by simp; omega))
    refine ev_aload_n d_Model_addresses_39 rfl rfl ?_
    refine ev_iconst (v := 0) d_Model_addresses_40 (by decide) ?_
    refine mo_put (fp_Model_248 rfl rfl) d_Model_addresses_41 (Nat.le_of_ble_eq_true rfl) rfl rfl rfl ?_
    refine ev_aload_n d_Model_addresses_44 rfl rfl ?_
    refine ev_iconst (v := 0) d_Model_addresses_45 (by decide) ?_
    refine mo_put (fp_Model_227 rfl rfl) d_Model_addresses_46 (Nat.le_of_ble_eq_true rfl) rfl rfl rfl ?_
    refine ev_iconst (v := (-1)) d_Model_addresses_49 (by decide) ?_
    refine ev_istore_n d_Model_addresses_50 rfl (by decide) ?_
    refine ev_iconst (v := 0) d_Model_addresses_51 (by decide) ?_
    refine ev_istore_n d_Model_addresses_52 rfl (by decide) ?_
    refine ev_iconst (v := 0) d_Model_addresses_53 (by decide) ?_
    refine ev_istore d_Model_addresses_54 (by decide) ?_
    refine ev_iconst (v := 0) d_Model_addresses_56 (by decide) ?_
    refine ev_istore d_Model_addresses_57 (by decide) ?_
    have k9 := k_Model_addresses (h0 := h0) (M := M) (cZ := cZ) (f := nI j) (P0 := P) (ml0 := upN ml 0 0) (I0 := upd (upd I1 24 0) 25 0) (R0 := R2) hT (by omega) (by omega) W.length 0 0 ([], [], 0, -1) _ R2 (by omega) (Nat.zero_le _) (Nat.le_refl _) hW2 (sm_rf _ _) (sm_rf _ _) ⟨_, _, [], f1, hol_nil _ _, ⟨rfl, rfl, rfl, rfl, rfl, rfl, rfl⟩, fun w hw => if_neg (by omega), fun i hi => rfl, Nat.zero_le _, Nat.zero_le _, fun _ => Nat.zero_le _, Nat.zero_le _⟩
    refine ev_as [(0, .ref M), (1, .int (nI j)), (2, .int (-1)), (3, .int (nI 0)), (4, .int (bI (ad_an (ad_sl W 0 0)))), (5, .int (nI 0))] ⟨rfl, rfl, rfl, rfl, rfl, rfl, trivial⟩ (ev_to k9 ?_)
    rintro o h' ⟨v, rfl, P', ml', gs, I', R', rfl, rfl, g1, g2, g3, g4, g5, g6, g7⟩
    refine ⟨_, rfl, Or.inr ⟨j, q, rfl, hq, ?_⟩⟩
    rw [hWc]
    refine ⟨P', ml', gs, I', R', rfl, rfl, g1, g2, g3, g4, ?_, fun i hi => ?_, sm_tr (sm_mono w4 (by decide)) (sm_tr (sm_mono f2 (by decide)) (sm_mono g7 (by decide)))⟩
    · rw [g6 0 (by decide)]
      show I1 0 = 0
      rw [w3 0 (by decide)]
      rfl
    · simp only [List.mem_cons, List.not_mem_nil, or_false, not_or] at hi
      rw [g6 i (by simp [hi]), upd_ne hi.2.2.2.2.1, upd_ne hi.2.2.2.1, w3 i (by simp [hi]), upd_ne hi.1]
end ADS4
