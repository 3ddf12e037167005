/-! the reference: addresses: how much is made at most -/
def sg (g : Nat → Nat) : Nat → Nat → Nat
  | _, 0 => 0
  | x, n + 1 => g x + sg g (x + 1) n
/-- the sum over the places from x up to y -/
def iv (g : Nat → Nat) (x y : Nat) : Nat := sg g x (y - x)
theorem iv_step (g : Nat → Nat) {x y : Nat} (h : x < y) : iv g x y = g x + iv g (x + 1) y := by
  unfold iv
  rw [show y - x = (y - (x + 1)) + 1 by omega]
  rfl
theorem iv_nil (g : Nat → Nat) {x y : Nat} (h : y ≤ x) : iv g x y = 0 := by
  unfold iv
  rw [show y - x = 0 by omega]
  rfl
theorem iv_app (g : Nat → Nat) {x y : Nat} : ∀ (n m : Nat), m = x + n → m ≤ y → iv g x y = iv g x m + iv g m y
  | 0, m, h, h2 => by rw [h, Nat.add_zero, iv_nil g (Nat.le_refl _), Nat.zero_add]
  | n + 1, m, h, h2 => by
    have e := iv_app g (x := x) (y := y) n (x + n) rfl (by omega)
    have e2 := iv_app g (x := x) (y := m) n (x + n) rfl (by omega)
    rw [iv_step g (x := x + n) (y := y) (by omega)] at e
    rw [iv_step g (x := x + n) (y := m) (by omega), iv_nil g (show m ≤ x + n + 1 by omega)] at e2
    rw [show m = x + n + 1 by omega] at e2 ⊢
    omega
theorem iv_cut (g : Nat → Nat) {x m y : Nat} (h1 : x ≤ m) (h2 : m ≤ y) : iv g x y = iv g x m + iv g m y := iv_app g (m - x) m (by omega) h2
theorem iv_mono (g : Nat → Nat) {x x' y : Nat} (h1 : x ≤ x') : iv g x' y ≤ iv g x y := by
  rcases Nat.lt_or_ge y x' with q | q
  · rw [iv_nil g (by omega)]; exact Nat.zero_le _
  · rw [iv_cut g h1 q]; omega
theorem iv_monoR (g : Nat → Nat) {x y y' : Nat} (h1 : y ≤ y') : iv g x y ≤ iv g x y' := by
  rcases Nat.lt_or_ge y x with q | q
  · rw [iv_nil g (by omega)]; exact Nat.zero_le _
  · rw [iv_cut g q h1]; omega
theorem iv_one (g : Nat → Nat) {x j y : Nat} (h1 : x ≤ j) (h2 : j < y) : g j ≤ iv g x y := by
  have := iv_mono g (x := x) (x' := j) (y := y) h1
  rw [iv_step g h2] at this
  omega
theorem iv_add {g g' g2 : Nat → Nat} (h : ∀ j, g j + g' j = g2 j) (x y : Nat) : iv g x y + iv g' x y = iv g2 x y := by
  unfold iv
  have key : ∀ (n x : Nat), sg g x n + sg g' x n = sg g2 x n := by
    intro n
    induction n with
    | zero => intro x; rfl
    | succ n ih => intro x; have h1 := ih (x + 1); have h2 := h x; simp only [sg]; omega
  exact key _ _
/-- what the word at j may cost: no COMMENT; a COMMENT; either -/
def gN (W : Wds) (j : Nat) : Nat := match W[j]? with
  | some w => if w.1 = 0 then 0 else w.2.2.length + 2
  | none => 0
def gC (W : Wds) (j : Nat) : Nat := match W[j]? with
  | some w => if w.1 = 0 then w.2.2.length + 2 else 0
  | none => 0
def gA (W : Wds) (j : Nat) : Nat := match W[j]? with
  | some w => w.2.2.length + 2
  | none => 0
theorem gNC (W : Wds) (j : Nat) : gN W j + gC W j = gA W j := by
  unfold gN gC gA
  cases W[j]? with
  | none => rfl
  | some w => by_cases h : w.1 = 0 <;> simp [h]
theorem gN_at {W : Wds} {j : Nat} {w : Int32 × Int32 × List Int32} (h : W[j]? = some w) (h0 : ¬ w.1 = 0) : gN W j = w.2.2.length + 2 := by
  unfold gN; rw [h]; exact if_neg h0
theorem gC_at {W : Wds} {j : Nat} {w : Int32 × Int32 × List Int32} (h : W[j]? = some w) (h0 : w.1 = 0) : gC W j = w.2.2.length + 2 := by
  unfold gC; rw [h]; exact if_pos h0
theorem gA_sum (W : Wds) : ∀ k, k ≤ W.length → iv (gA W) 0 k = (wB (W.take k)).length + 2 * k
  | 0, _ => by rw [iv_nil _ (Nat.le_refl _)]; simp [wB]
  | k + 1, h => by
    have ih := gA_sum W k (by omega)
    have q : W[k]? = some W[k] := List.getElem?_eq_getElem (by omega)
    rw [iv_cut (gA W) (x := 0) (m := k) (y := k + 1) (Nat.zero_le _) (Nat.le_succ _), iv_step _ (Nat.lt_succ_self k), iv_nil _ (Nat.le_refl _), wB_take_succ q, ih]
    have : gA W k = W[k].2.2.length + 2 := by unfold gA; rw [q]
    omega
theorem cc_nc : ∀ (l : Wds) (w : Int32 × Int32 × List Int32), l[cc l]? = some w → ¬ w.1 = 0
  | [], w, h => by simp at h
  | x :: t, w, h => by
    unfold cc at h
    by_cases h0 : x.1 = 0
    · rw [if_pos h0] at h
      exact cc_nc t w (by simpa using h)
    · rw [if_neg h0] at h
      have : x = w := by simpa using h
      rw [← this]; exact h0
/-- where next stops there is no COMMENT -/
theorem nx_nc {W : Wds} {a b : Nat} {w : Int32 × Int32 × List Int32} (h : nx W a b < b) (hw : W[nx W a b]? = some w) : ¬ w.1 = 0 := by
  refine cc_nc ((W.take b).drop a) w ?_
  rw [List.getElem?_drop, List.getElem?_take]
  unfold nx at h hw
  rw [if_pos h]
  exact hw
section ADR
variable {G : gl_G} {cI cZ : ClassId} {h0 : hp_T} {M : Nat} {I : Nat → Int32} {W : Wds} {P : Pts} {ml : Nat → Nat}
/-- a part more, of what kind v, ml at most by c more -/
def mkP (cI cZ : ClassId) (h0 : hp_T) (M : Nat) (I : Nat → Int32) (R : Nat → Nat → Int32) (P : Pts) (ml : Nat → Nat) (v c : Nat) : hp_T → Prop := fun h' => ∃ (l : List Int32) (R' : Nat → Nat → Int32) (m : Nat), h' = mo_ov cI cZ h0 M I R' ∧ pOk (va_up P v (P v ++ [l])) (upN ml 0 m) R' ∧ m ≤ ml 0 + c ∧ sm [13, 14, 15, 16, 17] R R'
theorem l_Model_makeName (hT : (gl_t G)[0]? = some (cI, .int)) {v : Nat} (hv : v < 4) (hl : W.length ≤ 1501) (hb : (wB W).length ≤ 1600) {b : Nat} (hbW : b ≤ W.length) {x : Int32} {R0 : Nat → Nat → Int32} : ∀ (n k : Nat) (cur : List Int32) (m : Nat) (s : Int32) (R : Nat → Nat → Int32), b ≤ k + n → k ≤ b → (k < b → ∀ w, W[k]? = some w → ¬ w.1 = 0) → wOk W I R → pIn P (upN ml 0 m) v cur R → m + iv (gN W) k b ≤ 5890 → sm [13, 14, 15, 16, 17] R0 R →
    ev_E G m_Model_makeName 16 [(0, .ref M), (1, .int (nI v)), (2, .int x), (3, .int (nI b)), (4, .int s), (5, .int (nI k))] [] (mo_ov cI cZ h0 M I R) (cn (fun h' => ∃ (l : List Int32) (R' : Nat → Nat → Int32) (m' : Nat), h' = mo_ov cI cZ h0 M I R' ∧ pOk (va_up P v (P v ++ [l])) (upN ml 0 m') R' ∧ m' ≤ m + iv (gN W) k b ∧ sm [13, 14, 15, 16, 17] R0 R')) := by
  have hv7 : v < 7 := by omega
  have har : ar v = 0 := if_pos hv
  intro n
  induction n with
  | zero =>
    intro k cur m s R hk hkb hnc hW hP hm hs
    refine ev_iload d_Model_makeName_16 rfl ?_
    refine ev_iload_n d_Model_makeName_18 rfl rfl ?_
    refine ev_icmp_ge (tgt := 69) d_Model_makeName_19 (by decide) (fun _ => ?_) (fun z => absurd (nI_le (by omega) (by omega)) z)
    refine ev_aload_n d_Model_makeName_69 rfl rfl ?_
    refine ev_iload_n d_Model_makeName_70 rfl rfl ?_
    refine mo_Vn [.int (nI v)] [] ca_Model_makeName_210 d_Model_makeName_71 rfl (Nat.le_of_ble_eq_true rfl) (c_Model_endPart hT hv7 hP) (fun h1 z => ?_)
    obtain ⟨R2, rfl, q1, q2⟩ := z
    refine ev_vret d_Model_makeName_74 rfl ?_
    exact ⟨rfl, cur, R2, m, rfl, q1, Nat.le_add_right _ _, sm_tr hs q2⟩
  | succ n ih =>
    intro k cur m s R hk hkb hnc hW hP hm hs
    refine ev_iload d_Model_makeName_16 rfl ?_
    refine ev_iload_n d_Model_makeName_18 rfl rfl ?_
    refine ev_icmp_ge (tgt := 69) d_Model_makeName_19 (by decide) (fun c_19 => ?_) (fun c_19 => ?_)
    · refine ev_aload_n d_Model_makeName_69 rfl rfl ?_
      refine ev_iload_n d_Model_makeName_70 rfl rfl ?_
      refine mo_Vn [.int (nI v)] [] ca_Model_makeName_210 d_Model_makeName_71 rfl (Nat.le_of_ble_eq_true rfl) (c_Model_endPart hT hv7 hP) (fun h1 z => ?_)
      obtain ⟨R2, rfl, q1, q2⟩ := z
      refine ev_vret d_Model_makeName_74 rfl ?_
      exact ⟨rfl, cur, R2, m, rfl, q1, Nat.le_add_right _ _, sm_tr hs q2⟩
    · have hlt : k < b := by
        rcases Nat.lt_or_ge k b with q | q
        · exact q
        · exact absurd (nI_le q (by omega)) c_19
      have qk : W[k]? = some W[k] := List.getElem?_eq_getElem (by omega)
      generalize W[k] = w at qk
      have hg := gN_at qk (hnc hlt w qk)
      have hst := iv_step (gN W) hlt
      have hnx := nx_le W (a := k + 1) (b := b) (by omega) hbW
      have hng := nx_ge W (k + 1) b
      have hmo := iv_mono (gN W) (x := k + 1) (x' := nx W (k + 1) b) (y := b) hng
      -- from 45 on, with m1 bytes made
      have on : ∀ (cur1 : List Int32) (m1 : Nat) (R1 : Nat → Nat → Int32), wOk W I R1 → pIn P (upN ml 0 m1) v cur1 R1 → m ≤ m1 → m1 ≤ m + 1 → sm [13, 14, 15, 16, 17] R0 R1 → ev_E G m_Model_makeName 45 [(0, .ref M), (1, .int (nI v)), (2, .int x), (3, .int (nI b)), (4, .int s), (5, .int (nI k))] [] (mo_ov cI cZ h0 M I R1) (cn (fun h' => ∃ (l : List Int32) (R' : Nat → Nat → Int32) (m' : Nat), h' = mo_ov cI cZ h0 M I R' ∧ pOk (va_up P v (P v ++ [l])) (upN ml 0 m') R' ∧ m' ≤ m + iv (gN W) k b ∧ sm [13, 14, 15, 16, 17] R0 R')) := by
        intro cur1 m1 R1 hW1 hP1 g1 g2 s1
        refine ev_aload_n d_Model_makeName_45 rfl rfl ?_
        refine ev_iload_n d_Model_makeName_46 rfl rfl ?_
        refine ev_iload d_Model_makeName_47 rfl ?_
        refine mo_Vn [.int (nI v), .int (nI k)] [] ca_Model_makeName_207 d_Model_makeName_49 rfl (Nat.le_of_ble_eq_true rfl) (c_Model_addWord hT hv7 hW1 hl hb qk hP1 (by rw [har, upN_at]; omega)) (fun h1 z => ?_)
        obtain ⟨R2, rfl, q1, q2⟩ := z
        rw [har, upN_at, upN_same] at q1
        have hW2 : wOk W I R2 := wOk_R hW1 (fun j j1 j2 => q2 j (by simp; omega))
        refine ev_iconst (v := 1) d_Model_makeName_52 (by decide) ?_
        refine ev_istore d_Model_makeName_53 (by decide) ?_
        refine ev_aload_n d_Model_makeName_55 rfl rfl ?_
        refine ev_iload d_Model_makeName_56 rfl ?_
        refine ev_iconst (v := 1) d_Model_makeName_58 (by decide) ?_
        refine ev_iadd d_Model_makeName_59 ?_
        rw [nI_1]
        refine ev_iload_n d_Model_makeName_60 rfl rfl ?_
        refine mo_Vv [.int (nI (k + 1)), .int (nI b)] [] ca_Model_makeName_197 d_Model_makeName_61 rfl (Nat.le_of_ble_eq_true rfl) (c_Model_next hT hW2 hl hbW (by omega)) ?_
        refine ev_istore d_Model_makeName_64 (by decide) ?_
        refine ev_goto (tgt := 16) d_Model_makeName_66 (by decide) ?_
        refine ev_to (ih (nx W (k + 1) b) (cur1 ++ w.2.2) (m1 + w.2.2.length) 1 R2 (by omega) hnx (fun h w hw => nx_nc h hw) hW2 q1 (by omega) (sm_tr s1 q2)) ?_
        rintro o h' ⟨rfl, l, R', m', rfl, r1, r2, r3⟩
        exact ⟨rfl, l, R', m', rfl, r1, by omega, r3⟩
      refine ev_iload d_Model_makeName_22 rfl ?_
      refine ev_if_eq (tgt := 45) d_Model_makeName_24 (by decide) (fun c_24 => ?_) (fun c_24 => ?_)
      · exact on cur m R hW hP (Nat.le_refl _) (by omega) hs
      · refine ev_aload_n d_Model_makeName_27 rfl rfl ?_
        refine ev_iload d_Model_makeName_28 rfl ?_
        refine ev_bipush (v := 46) d_Model_makeName_30 (by decide) ?_
        refine mo_Vv [.int (nI k), .int 46] [] ca_Model_makeName_200 d_Model_makeName_32 rfl (Nat.le_of_ble_eq_true rfl) (c_Model_is hT hW hl qk 46) ?_
        refine ev_if_ne (tgt := 45) d_Model_makeName_35 (by decide) (fun c_35 => ?_) (fun c_35 => ?_)
        · exact on cur m R hW hP (Nat.le_refl _) (by omega) hs
        · refine ev_aload_n d_Model_makeName_38 rfl rfl ?_
          refine ev_iload_n d_Model_makeName_39 rfl rfl ?_
          refine ev_bipush (v := 32) d_Model_makeName_40 (by decide) ?_
          refine mo_Vn [.int (nI v), .int 32] [] ca_Model_makeName_191 d_Model_makeName_42 rfl (Nat.le_of_ble_eq_true rfl) (c_Model_add hT hv7 hP (by rw [har, upN_at]; omega) 32) (fun h1 z => ?_)
          obtain ⟨R1, rfl, q1, q2⟩ := z
          rw [har, upN_at, upN_same] at q1
          exact on (cur ++ [32]) (m + 1) R1 (wOk_R hW (fun j j1 j2 => q2 j (by simp; omega))) q1 (by omega) (Nat.le_refl _) (sm_tr hs q2)
theorem c_Model_makeName (hT : (gl_t G)[0]? = some (cI, .int)) {v : Nat} (hv : v < 4) {R : Nat → Nat → Int32} (hW : wOk W I R) (hl : W.length ≤ 1501) (hb : (wB W).length ≤ 1600) {a b : Nat} (hab : a ≤ b) (hbW : b ≤ W.length) (hP : pOk P ml R) (hn : (P v).length < 1000) (hm : ml 0 + iv (gN W) a b ≤ 5890) : ct_E G m_Model_makeName [.ref M, .int (nI v), .int (nI a), .int (nI b)] (mo_ov cI cZ h0 M I R) (cn (mkP cI cZ h0 M I R P ml v (iv (gN W) a b))) := by
  have har : ar v = 0 := if_pos hv
  have hng := nx_ge W a b
  have hmo := iv_mono (gN W) (x := a) (x' := nx W a b) (y := b) hng
  refine ct_of (ws' := tb_all) rfl rfl (Nat.le_of_ble_eq_true rfl) ?_
  refine ev_aload_n d_Model_makeName_0 rfl rfl ?_
  refine ev_iload_n d_Model_makeName_1 rfl rfl ?_
  refine mo_Vn [.int (nI v)] [] ca_Model_makeName_204 d_Model_makeName_2 rfl (Nat.le_of_ble_eq_true rfl) (c_Model_beginPart hT hP (by omega) hn) (fun h1 z => ?_)
  obtain ⟨R2, rfl, q1, q2⟩ := z
  have hW2 : wOk W I R2 := wOk_R hW (fun j j1 j2 => q2 j (by simp; omega))
  refine ev_iconst (v := 0) d_Model_makeName_5 (by decide) ?_
  refine ev_istore d_Model_makeName_6 (by decide) ?_
  refine ev_aload_n d_Model_makeName_8 rfl rfl ?_
  refine ev_iload_n d_Model_makeName_9 rfl rfl ?_
  refine ev_iload_n d_Model_makeName_10 rfl rfl ?_
  refine mo_Vv [.int (nI a), .int (nI b)] [] ca_Model_makeName_197 d_Model_makeName_11 rfl (Nat.le_of_ble_eq_true rfl) (c_Model_next hT hW2 hl hbW (by omega)) ?_
  refine ev_istore d_Model_makeName_14 (by decide) ?_
  refine ev_as [(0, .ref M), (1, .int (nI v)), (2, .int (nI a)), (3, .int (nI b)), (4, .int 0), (5, .int (nI (nx W a b)))] ⟨rfl, rfl, rfl, rfl, rfl, rfl, trivial⟩ ?_
  refine ev_to (l_Model_makeName (ml := ml) (R0 := R) hT hv hl hb hbW (b - nx W a b) (nx W a b) [] (ml 0) 0 R2 (by have := nx_le W hab hbW; omega) (nx_le W hab hbW) (fun h w hw => nx_nc h hw) hW2 (by rw [upN_id rfl]; exact q1) (by omega) q2) ?_
  rintro o h' ⟨rfl, l, R', m', rfl, r1, r2, r3⟩
  exact ⟨rfl, l, R', m', rfl, r1, by omega, r3⟩
theorem l_Model_makeWords (hT : (gl_t G)[0]? = some (cI, .int)) {v : Nat} (hv : v < 4) (hl : W.length ≤ 1501) (hb : (wB W).length ≤ 1600) {b : Nat} (hbW : b ≤ W.length) {x : Int32} {R0 : Nat → Nat → Int32} : ∀ (n k : Nat) (cur : List Int32) (m : Nat) (R : Nat → Nat → Int32), b ≤ k + n → k ≤ b → (k < b → ∀ w, W[k]? = some w → ¬ w.1 = 0) → wOk W I R → pIn P (upN ml 0 m) v cur R → m + iv (gN W) k b ≤ 5890 → sm [13, 14, 15, 16, 17] R0 R →
    ev_E G m_Model_makeWords 13 [(0, .ref M), (1, .int (nI v)), (2, .int x), (3, .int (nI b)), (4, .int (nI k))] [] (mo_ov cI cZ h0 M I R) (cn (fun h' => ∃ (l : List Int32) (R' : Nat → Nat → Int32) (m' : Nat), h' = mo_ov cI cZ h0 M I R' ∧ pOk (va_up P v (P v ++ [l])) (upN ml 0 m') R' ∧ m' ≤ m + iv (gN W) k b ∧ sm [13, 14, 15, 16, 17] R0 R')) := by
  have hv7 : v < 7 := by omega
  have har : ar v = 0 := if_pos hv
  intro n
  induction n with
  | zero =>
    intro k cur m R hk hkb hnc hW hP hm hs
    refine ev_iload d_Model_makeWords_13 rfl ?_
    refine ev_iload_n d_Model_makeWords_15 rfl rfl ?_
    refine ev_icmp_ge (tgt := 76) d_Model_makeWords_16 (by decide) (fun _ => ?_) (fun z => absurd (nI_le (by omega) (by omega)) z)
    refine ev_aload_n d_Model_makeWords_76 rfl rfl ?_
    refine ev_iload_n d_Model_makeWords_77 rfl rfl ?_
    refine mo_Vn [.int (nI v)] [] ca_Model_makeWords_210 d_Model_makeWords_78 rfl (Nat.le_of_ble_eq_true rfl) (c_Model_endPart hT hv7 hP) (fun h1 z => ?_)
    obtain ⟨R2, rfl, q1, q2⟩ := z
    refine ev_vret d_Model_makeWords_81 rfl ?_
    exact ⟨rfl, cur, R2, m, rfl, q1, Nat.le_add_right _ _, sm_tr hs q2⟩
  | succ n ih =>
    intro k cur m R hk hkb hnc hW hP hm hs
    refine ev_iload d_Model_makeWords_13 rfl ?_
    refine ev_iload_n d_Model_makeWords_15 rfl rfl ?_
    refine ev_icmp_ge (tgt := 76) d_Model_makeWords_16 (by decide) (fun c_16 => ?_) (fun c_16 => ?_)
    · refine ev_aload_n d_Model_makeWords_76 rfl rfl ?_
      refine ev_iload_n d_Model_makeWords_77 rfl rfl ?_
      refine mo_Vn [.int (nI v)] [] ca_Model_makeWords_210 d_Model_makeWords_78 rfl (Nat.le_of_ble_eq_true rfl) (c_Model_endPart hT hv7 hP) (fun h1 z => ?_)
      obtain ⟨R2, rfl, q1, q2⟩ := z
      refine ev_vret d_Model_makeWords_81 rfl ?_
      exact ⟨rfl, cur, R2, m, rfl, q1, Nat.le_add_right _ _, sm_tr hs q2⟩
    · have hlt : k < b := by
        rcases Nat.lt_or_ge k b with q | q
        · exact q
        · exact absurd (nI_le q (by omega)) c_16
      have qk : W[k]? = some W[k] := List.getElem?_eq_getElem (by omega)
      generalize W[k] = w at qk
      have hg := gN_at qk (hnc hlt w qk)
      have hst := iv_step (gN W) hlt
      have hnx := nx_le W (a := k + 1) (b := b) (by omega) hbW
      have hng := nx_ge W (k + 1) b
      have hmo := iv_mono (gN W) (x := k + 1) (x' := nx W (k + 1) b) (y := b) hng
      have i8 : vp_in (nI k) (mo_len 8) := vp_in_nI (show k < 1501 by omega) (by decide)
      -- from 62 on
      have on62 : ∀ (cur1 : List Int32) (m1 : Nat) (R1 : Nat → Nat → Int32), wOk W I R1 → pIn P (upN ml 0 m1) v cur1 R1 → m1 ≤ m + w.2.2.length + 2 → sm [13, 14, 15, 16, 17] R0 R1 → ev_E G m_Model_makeWords 62 [(0, .ref M), (1, .int (nI v)), (2, .int x), (3, .int (nI b)), (4, .int (nI k))] [] (mo_ov cI cZ h0 M I R1) (cn (fun h' => ∃ (l : List Int32) (R' : Nat → Nat → Int32) (m' : Nat), h' = mo_ov cI cZ h0 M I R' ∧ pOk (va_up P v (P v ++ [l])) (upN ml 0 m') R' ∧ m' ≤ m + iv (gN W) k b ∧ sm [13, 14, 15, 16, 17] R0 R')) := by
        intro cur1 m1 R1 hW1 hP1 g2 s1
        refine ev_aload_n d_Model_makeWords_62 rfl rfl ?_
        refine ev_iload d_Model_makeWords_63 rfl ?_
        refine ev_iconst (v := 1) d_Model_makeWords_65 (by decide) ?_
        refine ev_iadd d_Model_makeWords_66 ?_
        rw [nI_1]
        refine ev_iload_n d_Model_makeWords_67 rfl rfl ?_
        refine mo_Vv [.int (nI (k + 1)), .int (nI b)] [] ca_Model_makeWords_197 d_Model_makeWords_68 rfl (Nat.le_of_ble_eq_true rfl) (c_Model_next hT hW1 hl hbW (by omega)) ?_
        refine ev_istore d_Model_makeWords_71 (by decide) ?_
        refine ev_goto (tgt := 13) d_Model_makeWords_73 (by decide) ?_
        refine ev_to (ih (nx W (k + 1) b) cur1 m1 R1 (by omega) hnx (fun h w hw => nx_nc h hw) hW1 hP1 (by omega) s1) ?_
        rintro o h' ⟨rfl, l, R', m', rfl, r1, r2, r3⟩
        exact ⟨rfl, l, R', m', rfl, r1, by omega, r3⟩
      -- from 37 on
      have on37 : ∀ (cur1 : List Int32) (m1 : Nat) (R1 : Nat → Nat → Int32), wOk W I R1 → pIn P (upN ml 0 m1) v cur1 R1 → m1 ≤ m + 1 → sm [13, 14, 15, 16, 17] R0 R1 → ev_E G m_Model_makeWords 37 [(0, .ref M), (1, .int (nI v)), (2, .int x), (3, .int (nI b)), (4, .int (nI k))] [] (mo_ov cI cZ h0 M I R1) (cn (fun h' => ∃ (l : List Int32) (R' : Nat → Nat → Int32) (m' : Nat), h' = mo_ov cI cZ h0 M I R' ∧ pOk (va_up P v (P v ++ [l])) (upN ml 0 m') R' ∧ m' ≤ m + iv (gN W) k b ∧ sm [13, 14, 15, 16, 17] R0 R')) := by
        intro cur1 m1 R1 hW1 hP1 g2 s1
        refine ev_aload_n d_Model_makeWords_37 rfl rfl ?_
        refine ev_iload_n d_Model_makeWords_38 rfl rfl ?_
        refine ev_iload d_Model_makeWords_39 rfl ?_
        refine mo_Vn [.int (nI v), .int (nI k)] [] ca_Model_makeWords_207 d_Model_makeWords_41 rfl (Nat.le_of_ble_eq_true rfl) (c_Model_addWord hT hv7 hW1 hl hb qk hP1 (by rw [har, upN_at]; omega)) (fun h1 z => ?_)
        obtain ⟨R2, rfl, q1, q2⟩ := z
        rw [har, upN_at, upN_same] at q1
        have hW2 : wOk W I R2 := wOk_R hW1 (fun j j1 j2 => q2 j (by simp; omega))
        refine ev_aload_n d_Model_makeWords_44 rfl rfl ?_
        refine mo_get (fa_Model_31 rfl rfl) d_Model_makeWords_45 rfl ?_
        refine ev_iload d_Model_makeWords_48 rfl ?_
        refine mo_ald hT d_Model_makeWords_50 (by decide) i8 ?_
        refine ev_iconst (v := 2) d_Model_makeWords_51 (by decide) ?_
        refine ev_icmp_ne (tgt := 62) d_Model_makeWords_52 (by decide) (fun c_52 => ?_) (fun c_52 => ?_)
        · exact on62 _ _ R2 hW2 q1 (by omega) (sm_tr s1 q2)
        · refine ev_aload_n d_Model_makeWords_55 rfl rfl ?_
          refine ev_iload_n d_Model_makeWords_56 rfl rfl ?_
          refine ev_bipush (v := 93) d_Model_makeWords_57 (by decide) ?_
          refine mo_Vn [.int (nI v), .int 93] [] ca_Model_makeWords_191 d_Model_makeWords_59 rfl (Nat.le_of_ble_eq_true rfl) (c_Model_add hT hv7 q1 (by rw [har, upN_at]; omega) 93) (fun h1 z => ?_)
          obtain ⟨R3, rfl, q3, q4⟩ := z
          rw [har, upN_at, upN_same] at q3
          exact on62 _ _ R3 (wOk_R hW2 (fun j j1 j2 => q4 j (by simp; omega))) q3 (by omega) (sm_tr (sm_tr s1 q2) q4)
      refine ev_aload_n d_Model_makeWords_19 rfl rfl ?_
      refine mo_get (fa_Model_31 rfl rfl) d_Model_makeWords_20 rfl ?_
      refine ev_iload d_Model_makeWords_23 rfl ?_
      refine mo_ald hT d_Model_makeWords_25 (by decide) i8 ?_
      refine ev_iconst (v := 2) d_Model_makeWords_26 (by decide) ?_
      refine ev_icmp_ne (tgt := 37) d_Model_makeWords_27 (by decide) (fun c_27 => ?_) (fun c_27 => ?_)
      · exact on37 cur m R hW hP (by omega) hs
      · refine ev_aload_n d_Model_makeWords_30 rfl rfl ?_
        refine ev_iload_n d_Model_makeWords_31 rfl rfl ?_
        refine ev_bipush (v := 91) d_Model_makeWords_32 (by decide) ?_
        refine mo_Vn [.int (nI v), .int 91] [] ca_Model_makeWords_191 d_Model_makeWords_34 rfl (Nat.le_of_ble_eq_true rfl) (c_Model_add hT hv7 hP (by rw [har, upN_at]; omega) 91) (fun h1 z => ?_)
        obtain ⟨R1, rfl, q1, q2⟩ := z
        rw [har, upN_at, upN_same] at q1
        exact on37 _ _ R1 (wOk_R hW (fun j j1 j2 => q2 j (by simp; omega))) q1 (Nat.le_refl _) (sm_tr hs q2)
theorem c_Model_makeWords (hT : (gl_t G)[0]? = some (cI, .int)) {v : Nat} (hv : v < 4) {R : Nat → Nat → Int32} (hW : wOk W I R) (hl : W.length ≤ 1501) (hb : (wB W).length ≤ 1600) {a b : Nat} (hab : a ≤ b) (hbW : b ≤ W.length) (hP : pOk P ml R) (hn : (P v).length < 1000) (hm : ml 0 + iv (gN W) a b ≤ 5890) : ct_E G m_Model_makeWords [.ref M, .int (nI v), .int (nI a), .int (nI b)] (mo_ov cI cZ h0 M I R) (cn (mkP cI cZ h0 M I R P ml v (iv (gN W) a b))) := by
  have har : ar v = 0 := if_pos hv
  have hng := nx_ge W a b
  have hmo := iv_mono (gN W) (x := a) (x' := nx W a b) (y := b) hng
  refine ct_of (ws' := tb_all) rfl rfl (Nat.le_of_ble_eq_true rfl) ?_
  refine ev_aload_n d_Model_makeWords_0 rfl rfl ?_
  refine ev_iload_n d_Model_makeWords_1 rfl rfl ?_
  refine mo_Vn [.int (nI v)] [] ca_Model_makeWords_204 d_Model_makeWords_2 rfl (Nat.le_of_ble_eq_true rfl) (c_Model_beginPart hT hP (by omega) hn) (fun h1 z => ?_)
  obtain ⟨R2, rfl, q1, q2⟩ := z
  have hW2 : wOk W I R2 := wOk_R hW (fun j j1 j2 => q2 j (by simp; omega))
  refine ev_aload_n d_Model_makeWords_5 rfl rfl ?_
  refine ev_iload_n d_Model_makeWords_6 rfl rfl ?_
  refine ev_iload_n d_Model_makeWords_7 rfl rfl ?_
  refine mo_Vv [.int (nI a), .int (nI b)] [] ca_Model_makeWords_197 d_Model_makeWords_8 rfl (Nat.le_of_ble_eq_true rfl) (c_Model_next hT hW2 hl hbW (by omega)) ?_
  refine ev_istore d_Model_makeWords_11 (by decide) ?_
  refine ev_to (l_Model_makeWords (ml := ml) (R0 := R) hT hv hl hb hbW (b - nx W a b) (nx W a b) [] (ml 0) R2 (by have := nx_le W hab hbW; omega) (nx_le W hab hbW) (fun h w hw => nx_nc h hw) hW2 (by rw [upN_id rfl]; exact q1) (by omega) q2) ?_
  rintro o h' ⟨rfl, l, R', m', rfl, r1, r2, r3⟩
  exact ⟨rfl, l, R', m', rfl, r1, by omega, r3⟩
theorem c_Model_makeComment (hT : (gl_t G)[0]? = some (cI, .int)) {R : Nat → Nat → Int32} (hW : wOk W I R) (hl : W.length ≤ 1501) (hb : (wB W).length ≤ 1600) {a b : Nat} (hab : a ≤ b) (hbW : b ≤ W.length) (hP : pOk P ml R) (hn : (P 0).length < 1000) (hm : ml 0 + iv (gC W) a b ≤ 5890) : ct_E G m_Model_makeComment [.ref M, .int (nI a), .int (nI b)] (mo_ov cI cZ h0 M I R) (cn (mkP cI cZ h0 M I R P ml 0 (iv (gC W) a b))) := by
  have fin : ∀ (last : Int32) (k : Int32), (last = -1 ∨ ∃ j w, last = nI j ∧ a ≤ j ∧ j < b ∧ W[j]? = some w ∧ w.1 = 0) → ev_E G m_Model_makeComment 37 [(0, .ref M), (1, .int (nI a)), (2, .int (nI b)), (3, .int last), (4, .int k)] [] (mo_ov cI cZ h0 M I R) (cn (mkP cI cZ h0 M I R P ml 0 (iv (gC W) a b))) := by
    intro last k hlast
    have fin2 : ∀ (cur : List Int32) (m : Nat) (R1 : Nat → Nat → Int32), pIn P (upN ml 0 m) 0 cur R1 → m ≤ ml 0 + iv (gC W) a b → sm [13, 14, 15, 16, 17] R R1 → ev_E G m_Model_makeComment 53 [(0, .ref M), (1, .int (nI a)), (2, .int (nI b)), (3, .int last), (4, .int k)] [] (mo_ov cI cZ h0 M I R1) (cn (mkP cI cZ h0 M I R P ml 0 (iv (gC W) a b))) := by
      intro cur m R1 hP1 hm1 s1
      refine ev_aload_n d_Model_makeComment_53 rfl rfl ?_
      refine ev_iconst (v := 0) d_Model_makeComment_54 (by decide) ?_
      refine mo_Vn [.int (nI 0)] [] ca_Model_makeComment_210 d_Model_makeComment_55 rfl (Nat.le_of_ble_eq_true rfl) (c_Model_endPart (w := 0) hT (by decide) hP1) (fun h1 z => ?_)
      obtain ⟨R2, rfl, q1, q2⟩ := z
      refine ev_vret d_Model_makeComment_58 rfl ?_
      exact ⟨rfl, cur, R2, m, rfl, q1, hm1, sm_tr s1 q2⟩
    refine ev_aload_n d_Model_makeComment_37 rfl rfl ?_
    refine ev_iconst (v := 0) d_Model_makeComment_38 (by decide) ?_
    refine mo_Vn [.int (nI 0)] [] ca_Model_makeComment_204 d_Model_makeComment_39 rfl (Nat.le_of_ble_eq_true rfl) (c_Model_beginPart (w := 0) hT hP (by decide) hn) (fun h1 z => ?_)
    obtain ⟨R2, rfl, q1, q2⟩ := z
    have hW2 : wOk W I R2 := wOk_R hW (fun j j1 j2 => q2 j (by simp; omega))
    refine ev_iload_n d_Model_makeComment_42 rfl rfl ?_
    refine ev_iconst (v := (-1)) d_Model_makeComment_43 (by decide) ?_
    rcases hlast with rfl | ⟨j, w, rfl, j1, j2, j3, j4⟩
    · refine ev_icmp_eq (tgt := 53) d_Model_makeComment_44 (by decide) (fun _ => ?_) (fun z => absurd rfl z)
      exact fin2 [] (ml 0) R2 (by rw [upN_id rfl]; exact q1) (Nat.le_add_right _ _) q2
    · have hg := gC_at j3 j4
      have hone := iv_one (gC W) j1 j2
      refine ev_icmp_eq (tgt := 53) d_Model_makeComment_44 (by decide) (fun z => ?_) (fun _ => ?_)
      · have := nI_pos (n := j) (by omega)
        rw [z] at this
        exact absurd (by decide) this
      · refine ev_aload_n d_Model_makeComment_47 rfl rfl ?_
        refine ev_iconst (v := 0) d_Model_makeComment_48 (by decide) ?_
        refine ev_iload_n d_Model_makeComment_49 rfl rfl ?_
        refine mo_Vn [.int (nI 0), .int (nI j)] [] ca_Model_makeComment_207 d_Model_makeComment_50 rfl (Nat.le_of_ble_eq_true rfl) (c_Model_addWord (v := 0) (ml := ml) hT (by decide) hW2 hl hb j3 q1 (by show ml 0 + _ ≤ _; omega)) (fun h1 z => ?_)
        obtain ⟨R3, rfl, q3, q4⟩ := z
        exact fin2 _ (ml 0 + w.2.2.length) R3 q3 (by omega) (sm_tr q2 q4)
  have loop : ∀ (n k : Nat) (last : Int32), b ≤ k + n → a ≤ k → k ≤ 1503 → (last = -1 ∨ ∃ j w, last = nI j ∧ a ≤ j ∧ j < b ∧ W[j]? = some w ∧ w.1 = 0) → ev_E G m_Model_makeComment 12 [(0, .ref M), (1, .int (nI a)), (2, .int (nI b)), (3, .int last), (4, .int (nI k))] [] (mo_ov cI cZ h0 M I R) (cn (mkP cI cZ h0 M I R P ml 0 (iv (gC W) a b))) := by
    intro n
    induction n with
    | zero =>
      intro k last hk hak hk2 hlast
      refine ev_iload d_Model_makeComment_12 rfl ?_
      refine ev_iload_n d_Model_makeComment_14 rfl rfl ?_
      refine ev_icmp_ge (tgt := 37) d_Model_makeComment_15 (by decide) (fun _ => ?_) (fun z => absurd (nI_le (by omega) (by omega)) z)
      exact fin last _ hlast
    | succ n ih =>
      intro k last hk hak hk2 hlast
      refine ev_iload d_Model_makeComment_12 rfl ?_
      refine ev_iload_n d_Model_makeComment_14 rfl rfl ?_
      refine ev_icmp_ge (tgt := 37) d_Model_makeComment_15 (by decide) (fun c_15 => ?_) (fun c_15 => ?_)
      · exact fin last _ hlast
      · have hlt : k < b := by
          rcases Nat.lt_or_ge k b with q | q
          · exact q
          · exact absurd (nI_le q (by omega)) c_15
        have qk : W[k]? = some W[k] := List.getElem?_eq_getElem (by omega)
        generalize W[k] = w at qk
        have r8 := (hW.2.2.2 k w qk).1
        have i8 : vp_in (nI k) (mo_len 8) := vp_in_nI (show k < 1501 by omega) (by decide)
        refine ev_aload_n d_Model_makeComment_18 rfl rfl ?_
        refine mo_get (fa_Model_31 rfl rfl) d_Model_makeComment_19 rfl ?_
        refine ev_iload d_Model_makeComment_22 rfl ?_
        refine mo_ald hT d_Model_makeComment_24 (by decide) i8 ?_
        rw [nI_clamp (by omega), r8]
        refine ev_if_ne (tgt := 31) d_Model_makeComment_25 (by decide) (fun c_25 => ?_) (fun c_25 => ?_)
        · refine ev_iinc d_Model_makeComment_31 rfl (by decide) ?_
          refine ev_goto (tgt := 12) d_Model_makeComment_34 (by decide) ?_
          rw [show nI k + Int32.ofInt 1 = nI (k + 1) from nI_1 k]
          exact ih (k + 1) last (by omega) (by omega) (by omega) hlast
        · refine ev_iload d_Model_makeComment_28 rfl ?_
          refine ev_istore_n d_Model_makeComment_30 rfl (by decide) ?_
          refine ev_iinc d_Model_makeComment_31 rfl (by decide) ?_
          refine ev_goto (tgt := 12) d_Model_makeComment_34 (by decide) ?_
          rw [show nI k + Int32.ofInt 1 = nI (k + 1) from nI_1 k]
          exact ih (k + 1) (nI k) (by omega) (by omega) (by omega) (Or.inr ⟨k, w, rfl, hak, hlt, qk, by first | exact c_25 | (by_cases q : w.1 = 0; exact q; exact absurd q c_25)⟩)
  have hng := nx_ge W a b
  have hnx := nx_le W hab hbW
  refine ct_of (ws' := tb_all) rfl rfl (Nat.le_of_ble_eq_true rfl) ?_
  refine ev_iconst (v := (-1)) d_Model_makeComment_0 (by decide) ?_
  refine ev_istore_n d_Model_makeComment_1 rfl (by decide) ?_
  refine ev_aload_n d_Model_makeComment_2 rfl rfl ?_
  refine ev_iload_n d_Model_makeComment_3 rfl rfl ?_
  refine ev_iload_n d_Model_makeComment_4 rfl rfl ?_
  refine mo_Vv [.int (nI a), .int (nI b)] [] ca_Model_makeComment_197 d_Model_makeComment_5 rfl (Nat.le_of_ble_eq_true rfl) (c_Model_next hT hW hl hbW (by omega)) ?_
  refine ev_iconst (v := 1) d_Model_makeComment_8 (by decide) ?_
  refine ev_iadd d_Model_makeComment_9 ?_
  rw [nI_1]
  refine ev_istore d_Model_makeComment_10 (by decide) ?_
  exact loop (b - (nx W a b + 1)) (nx W a b + 1) (-1) (by omega) (by omega) (by omega) (Or.inl rfl)
end ADR
