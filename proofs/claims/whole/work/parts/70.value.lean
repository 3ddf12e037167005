/-! the reference: a parameter's bytes -/
/-- CHARSET and what stands behind the second ' -/
def chq (v : List Int32) : Option (List Int32 × List Int32) := if cnt (neq 39) v + 1 + cnt (neq 39) (v.drop (cnt (neq 39) v + 1)) < v.length then some ((v.take (cnt (neq 39) v)).map sp_small, v.drop (cnt (neq 39) v + 1 + cnt (neq 39) (v.drop (cnt (neq 39) v + 1)) + 1)) else none
/-- of a parameter: its charset if it has one -/
def chOf (q : Prm) : Option (List Int32 × List Int32) := if q.2.2.1 = true ∧ ¬ 0 < q.2.1 then chq q.2.2.2 else none
/-- one byte of a value, and what stands behind it -/
def dec1 (cd : Bool) (c : Int32) (t : List Int32) : Int32 × List Int32 := if cd = true ∧ c = 37 ∧ 2 ≤ t.length ∧ ¬ sp_hex (t.getD 0 0) < 0 ∧ ¬ sp_hex (t.getD 1 0) < 0 then (16 * sp_hex (t.getD 0 0) + sp_hex (t.getD 1 0), t.drop 2) else (c, t)
def decS (cd : Bool) : Nat → List Int32 → List Int32
  | 0, _ => []
  | _ + 1, [] => []
  | n + 1, c :: t => (dec1 cd c t).1 :: decS cd n (dec1 cd c t).2
theorem dec1_len (cd : Bool) (c : Int32) (t : List Int32) : (dec1 cd c t).2.length ≤ t.length := by
  unfold dec1
  split
  · simp
  · exact Nat.le_refl _
theorem decS_len (cd : Bool) : ∀ (n : Nat) (l : List Int32), l.length ≤ n → (decS cd n l).length ≤ l.length
  | 0, _, _ => Nat.zero_le _
  | _ + 1, [], _ => Nat.le_refl _
  | n + 1, c :: t, h => by
    have h1 := dec1_len cd c t
    have h2 := decS_len cd n (dec1 cd c t).2 (by simp at h; omega)
    show ((dec1 cd c t).1 :: decS cd n (dec1 cd c t).2).length ≤ (c :: t).length
    simp only [List.length_cons]
    omega
section VALUE
variable {G : gl_G} {cI cZ : ClassId} {h0 : hp_T} {M : Nat}
theorem l_Model_bc1 (hT : (gl_t G)[0]? = some (cI, .int)) {I : Nat → Int32} {R : Nat → Nat → Int32} {e : Nat} {q a : Int32} (he : e ≤ 1600) {Z : Option Value → hp_T → Prop} : ∀ (t : List Int32) (k : Nat), hol (R 25) k t → k + t.length = e →
    ev_E G m_Model_behindCharset 61 [(0, .ref M), (1, .int q), (2, .int a), (3, .int (nI e)), (4, .int (nI (k + cnt (neq 39) t)))] [] (mo_ov cI cZ h0 M I R) Z →
    ev_E G m_Model_behindCharset 37 [(0, .ref M), (1, .int q), (2, .int a), (3, .int (nI e)), (4, .int (nI k))] [] (mo_ov cI cZ h0 M I R) Z := by
  intro t
  induction t with
  | nil =>
    intro k hh hl K
    refine ev_iload d_Model_behindCharset_37 rfl ?_
    refine ev_iload_n d_Model_behindCharset_39 rfl rfl ?_
    refine ev_icmp_ge (tgt := 61) d_Model_behindCharset_40 (by decide) (fun c_40 => ?_) (fun c_40 => ?_)
    · exact K
    · exact absurd (nI_le (a := e) (b := k) (by simp at hl; omega) (by simp at hl; omega)) c_40
  | cons c t ih =>
    intro k hh hl K
    simp only [List.length_cons] at hl
    obtain ⟨hx, ht⟩ := hol_cons hh
    have hin : vp_in (nI k) (mo_len 25) := vp_in_nI (show k < 1600 by omega) (by decide)
    refine ev_iload d_Model_behindCharset_37 rfl ?_
    refine ev_iload_n d_Model_behindCharset_39 rfl rfl ?_
    refine ev_icmp_ge (tgt := 61) d_Model_behindCharset_40 (by decide) (fun c_40 => ?_) (fun c_40 => ?_)
    · exact absurd c_40 (nI_ge (a := k) (b := e) (by omega) (by omega))
    · refine ev_aload_n d_Model_behindCharset_43 rfl rfl ?_
      refine mo_get (fa_Model_83 rfl rfl) d_Model_behindCharset_44 rfl ?_
      refine ev_iload d_Model_behindCharset_47 rfl ?_
      refine mo_ald hT d_Model_behindCharset_49 (by decide) hin ?_
      refine ev_bipush (v := 39) d_Model_behindCharset_50 (by decide) ?_
      rw [nI_clamp (by omega), hx]
      refine ev_icmp_eq (tgt := 61) d_Model_behindCharset_52 (by decide) (fun c_52 => ?_) (fun c_52 => ?_)
      · rw [cnt_no (show neq 39 c = false from decide_eq_false (fun z => z c_52))] at K
        exact K
      · refine ev_iinc d_Model_behindCharset_55 rfl (by decide) ?_
        refine ev_goto (tgt := 37) d_Model_behindCharset_58 (by decide) ?_
        rw [cnt_yes (show neq 39 c = true from decide_eq_true c_52), show k + (cnt (neq 39) t + 1) = k + 1 + cnt (neq 39) t by omega] at K
        refine ev_as [(0, .ref M), (1, .int q), (2, .int a), (3, .int (nI e)), (4, .int (nI (k + 1)))] ⟨rfl, rfl, rfl, rfl, ?_, trivial⟩ (ih (k + 1) ht (by omega) K)
        show some (Value.int (nI k + 1)) = _
        rw [nI_succ]
theorem l_Model_bc2 (hT : (gl_t G)[0]? = some (cI, .int)) {I : Nat → Int32} {R : Nat → Nat → Int32} {e : Nat} {q a y : Int32} (he : e ≤ 1600) {Z : Option Value → hp_T → Prop} : ∀ (t : List Int32) (k : Nat), hol (R 25) k t → (k + t.length = e ∨ (t = [] ∧ e ≤ k)) → k ≤ 1601 →
    ev_E G m_Model_behindCharset 91 [(0, .ref M), (1, .int q), (2, .int a), (3, .int (nI e)), (4, .int y), (5, .int (nI (k + cnt (neq 39) t)))] [] (mo_ov cI cZ h0 M I R) Z →
    ev_E G m_Model_behindCharset 67 [(0, .ref M), (1, .int q), (2, .int a), (3, .int (nI e)), (4, .int y), (5, .int (nI k))] [] (mo_ov cI cZ h0 M I R) Z := by
  intro t
  induction t with
  | nil =>
    intro k hh hl hk K
    refine ev_iload d_Model_behindCharset_67 rfl ?_
    refine ev_iload_n d_Model_behindCharset_69 rfl rfl ?_
    refine ev_icmp_ge (tgt := 91) d_Model_behindCharset_70 (by decide) (fun c_70 => ?_) (fun c_70 => ?_)
    · exact K
    · exact absurd (nI_le (a := e) (b := k) (by simp at hl; omega) (by omega)) c_70
  | cons c t ih =>
    intro k hh hl hk K
    have hl : k + (t.length + 1) = e := by
      rcases hl with q | q
      · simpa using q
      · simp at q
    obtain ⟨hx, ht⟩ := hol_cons hh
    have hin : vp_in (nI k) (mo_len 25) := vp_in_nI (show k < 1600 by omega) (by decide)
    refine ev_iload d_Model_behindCharset_67 rfl ?_
    refine ev_iload_n d_Model_behindCharset_69 rfl rfl ?_
    refine ev_icmp_ge (tgt := 91) d_Model_behindCharset_70 (by decide) (fun c_70 => ?_) (fun c_70 => ?_)
    · exact absurd c_70 (nI_ge (a := k) (b := e) (by omega) (by omega))
    · refine ev_aload_n d_Model_behindCharset_73 rfl rfl ?_
      refine mo_get (fa_Model_83 rfl rfl) d_Model_behindCharset_74 rfl ?_
      refine ev_iload d_Model_behindCharset_77 rfl ?_
      refine mo_ald hT d_Model_behindCharset_79 (by decide) hin ?_
      refine ev_bipush (v := 39) d_Model_behindCharset_80 (by decide) ?_
      rw [nI_clamp (by omega), hx]
      refine ev_icmp_eq (tgt := 91) d_Model_behindCharset_82 (by decide) (fun c_82 => ?_) (fun c_82 => ?_)
      · rw [cnt_no (show neq 39 c = false from decide_eq_false (fun z => z c_82))] at K
        exact K
      · refine ev_iinc d_Model_behindCharset_85 rfl (by decide) ?_
        refine ev_goto (tgt := 67) d_Model_behindCharset_88 (by decide) ?_
        rw [cnt_yes (show neq 39 c = true from decide_eq_true c_82), show k + (cnt (neq 39) t + 1) = k + 1 + cnt (neq 39) t by omega] at K
        refine ev_as [(0, .ref M), (1, .int q), (2, .int a), (3, .int (nI e)), (4, .int y), (5, .int (nI (k + 1)))] ⟨rfl, rfl, rfl, rfl, rfl, ?_, trivial⟩ (ih (k + 1) ht (Or.inl (by omega)) (by omega) K)
        show some (Value.int (nI k + 1)) = _
        rw [nI_succ]
theorem l_Model_bc3 (hT : (gl_t G)[0]? = some (cI, .int)) {I : Nat → Int32} {e a s : Nat} {q y : Int32} (he : e ≤ 1600) (hs : s < 1601) : ∀ (t : List Int32) (k : Nat) (cur : List Int32) (R : Nat → Nat → Int32), hol (R 25) k t → k + t.length = e → a + cur.length = k → hol (R 27) 0 cur →
    ev_E G m_Model_behindCharset 102 [(0, .ref M), (1, .int q), (2, .int (nI a)), (3, .int y), (4, .int (nI e)), (5, .int (nI s)), (6, .int (nI k))] [] (mo_ov cI cZ h0 M I R) (cr (fun v h' => v = .int (nI (s + 1)) ∧ ∃ R', h' = mo_ov cI cZ h0 M (upd I 38 (nI (cur ++ t.map sp_small).length)) R' ∧ hol (R' 27) 0 (cur ++ t.map sp_small) ∧ sm [27] R R')) := by
  intro t
  induction t with
  | nil =>
    intro k cur R hh hl ha hc
    simp only [List.length_nil] at hl
    refine ev_iload d_Model_behindCharset_102 rfl ?_
    refine ev_iload d_Model_behindCharset_104 rfl ?_
    refine ev_icmp_ge (tgt := 134) d_Model_behindCharset_106 (by decide) (fun c_106 => ?_) (fun c_106 => ?_)
    · refine ev_aload_n d_Model_behindCharset_134 rfl rfl ?_
      refine ev_iload d_Model_behindCharset_135 rfl ?_
      refine ev_iload_n d_Model_behindCharset_137 rfl rfl ?_
      refine ev_isub d_Model_behindCharset_138 ?_
      rw [pk_sub (show a ≤ e by omega), show e - a = (cur ++ ([] : List Int32).map sp_small).length by simp; omega]
      refine mo_put (fp_Model_96 rfl rfl) d_Model_behindCharset_139 (Nat.le_of_ble_eq_true rfl) rfl rfl rfl ?_
      refine ev_iload d_Model_behindCharset_142 rfl ?_
      refine ev_iconst (v := 1) d_Model_behindCharset_144 (by decide) ?_
      refine ev_iadd d_Model_behindCharset_145 ?_
      rw [nI_1]
      refine ev_iret d_Model_behindCharset_146 rfl ?_
      refine ⟨_, rfl, rfl, R, rfl, by simpa using hc, sm_rf _ _⟩
    · exact absurd (nI_le (a := e) (b := k) (by omega) (by omega)) c_106
  | cons c t ih =>
    intro k cur R hh hl ha hc
    simp only [List.length_cons] at hl
    obtain ⟨hx, ht⟩ := hol_cons hh
    have hin : vp_in (nI k) (mo_len 25) := vp_in_nI (show k < 1600 by omega) (by decide)
    have hin2 : vp_in (nI cur.length) (mo_len 27) := vp_in_nI (show cur.length < 1600 by omega) (by decide)
    refine ev_iload d_Model_behindCharset_102 rfl ?_
    refine ev_iload d_Model_behindCharset_104 rfl ?_
    refine ev_icmp_ge (tgt := 134) d_Model_behindCharset_106 (by decide) (fun c_106 => ?_) (fun c_106 => ?_)
    · exact absurd c_106 (nI_ge (a := k) (b := e) (by omega) (by omega))
    · refine ev_aload_n d_Model_behindCharset_109 rfl rfl ?_
      refine mo_get (fa_Model_89 rfl rfl) d_Model_behindCharset_110 rfl ?_
      refine ev_iload d_Model_behindCharset_113 rfl ?_
      refine ev_iload_n d_Model_behindCharset_115 rfl rfl ?_
      refine ev_isub d_Model_behindCharset_116 ?_
      rw [pk_sub (show a ≤ k by omega), show k - a = cur.length by omega]
      refine ev_aload_n d_Model_behindCharset_117 rfl rfl ?_
      refine mo_get (fa_Model_83 rfl rfl) d_Model_behindCharset_118 rfl ?_
      refine ev_iload d_Model_behindCharset_121 rfl ?_
      refine mo_ald hT d_Model_behindCharset_123 (by decide) hin ?_
      rw [nI_clamp (by omega), hx]
      refine ev_Sv [.int c] [.int (nI cur.length), .ref (M + 27)] ca_Model_behindCharset_133 d_Model_behindCharset_124 rfl (Nat.le_of_ble_eq_true rfl) (c_Model_small c) ?_
      refine mo_ast hT d_Model_behindCharset_127 (by decide) hin2 ?_
      rw [nI_clamp (by omega)]
      refine ev_iinc d_Model_behindCharset_128 rfl (by decide) ?_
      refine ev_goto (tgt := 102) d_Model_behindCharset_131 (by decide) ?_
      have hs2 := hol_snoc hc (sp_small c)
      rw [Nat.zero_add] at hs2
      have K := ih (k + 1) (cur ++ [sp_small c]) (va_up R 27 (upd (R 27) cur.length (sp_small c))) (by rw [up_ne (by decide)]; exact ht) (by omega) (by simp; omega) (by rw [va_up_self]; exact hs2)
      rw [show nI k + Int32.ofInt 1 = nI (k + 1) from nI_1 k]
      refine ev_to K ?_
      rintro o h' ⟨v, rfl, rfl, R', rfl, q1, q2⟩
      have e : cur ++ [sp_small c] ++ t.map sp_small = cur ++ (c :: t).map sp_small := by simp
      rw [e] at q1 ⊢
      exact ⟨_, rfl, rfl, R', rfl, q1, sm_tr (sm_up (by decide)) q2⟩
/-- behindCharset, of parameter number i: where its bytes begin; its charset is in hand then -/
theorem c_Model_behindCharset (hT : (gl_t G)[0]? = some (cI, .int)) (hZ : (gl_t G)[1]? = some (cZ, .boolean)) {I : Nat → Int32} {R : Nat → Nat → Int32} {i : Nat} {q : Prm} (hi : i < 800) (hq : prAt R 1600 i q) {c0 : Nat} (hc0 : R 23 i = nI c0) (hc1 : c0 < 2 ^ 31) : ct_E G m_Model_behindCharset [.ref M, .int (nI i)] (mo_ov cI cZ h0 M I R) (cr (fun v h' => match chOf q with
    | none => v = .int (nI c0) ∧ h' = mo_ov cI cZ h0 M I R
    | some (ch, bs) => v = .int (nI (c0 + (q.2.2.2.length - bs.length))) ∧ ∃ R', h' = mo_ov cI cZ h0 M (upd I 38 (nI ch.length)) R' ∧ hol (R' 27) 0 ch ∧ sm [27] R R')) := by
  obtain ⟨a, c, r19, r20, r21, r22, r23, r24, b1, b2, n1, n2⟩ := hq
  have hcc : c = c0 := (nI_eq (by omega) hc1).mp (r23.symm.trans hc0)
  subst hcc
  have hin : ∀ k, mo_len k = 800 → vp_in (nI i) (mo_len k) := fun k hk => by rw [hk]; exact vp_in_nI hi (by decide)
  refine ct_of (ws' := tb_all) rfl rfl (Nat.le_of_ble_eq_true rfl) ?_
  refine ev_aload_n d_Model_behindCharset_0 rfl rfl ?_
  refine mo_get (fa_Model_77 rfl rfl) d_Model_behindCharset_1 rfl ?_
  refine ev_iload_n d_Model_behindCharset_4 rfl rfl ?_
  refine mo_ald hT d_Model_behindCharset_5 (by decide) (hin 23 rfl) ?_
  rw [nI_clamp (by omega), r23]
  refine ev_istore_n d_Model_behindCharset_6 rfl (by decide) ?_
  refine ev_aload_n d_Model_behindCharset_7 rfl rfl ?_
  refine mo_get (fa_Model_80 rfl rfl) d_Model_behindCharset_8 rfl ?_
  refine ev_iload_n d_Model_behindCharset_11 rfl rfl ?_
  refine mo_ald hT d_Model_behindCharset_12 (by decide) (hin 24 rfl) ?_
  rw [nI_clamp (by omega), r24]
  refine ev_istore_n d_Model_behindCharset_13 rfl (by decide) ?_
  refine ev_aload_n d_Model_behindCharset_14 rfl rfl ?_
  refine mo_get (fa_Model_73 rfl rfl) d_Model_behindCharset_15 rfl ?_
  refine ev_iload_n d_Model_behindCharset_18 rfl rfl ?_
  refine mo_zald hZ d_Model_behindCharset_19 (hin 22 rfl) ?_
  rw [nI_clamp (by omega), r22]
  have back : chOf q = none → ev_E G m_Model_behindCharset 32 [(0, .ref M), (1, .int (nI i)), (2, .int (nI c)), (3, .int (nI (c + q.2.2.2.length)))] [] (mo_ov cI cZ h0 M I R) (cr (fun v h' => match chOf q with
    | none => v = .int (nI c) ∧ h' = mo_ov cI cZ h0 M I R
    | some (ch, bs) => v = .int (nI (c + (q.2.2.2.length - bs.length))) ∧ ∃ R', h' = mo_ov cI cZ h0 M (upd I 38 (nI ch.length)) R' ∧ hol (R' 27) 0 ch ∧ sm [27] R R')) := by
    intro z
    refine ev_iload_n d_Model_behindCharset_32 rfl rfl ?_
    refine ev_iret d_Model_behindCharset_33 rfl ?_
    rw [z]
    exact ⟨_, rfl, rfl, rfl⟩
  refine ev_if_eq (tgt := 32) d_Model_behindCharset_20 (by decide) (fun c_20 => ?_) (fun c_20 => ?_)
  · refine back (if_neg fun z => ?_)
    rw [z.1] at c_20
    exact absurd c_20 (by decide)
  · have hcd : q.2.2.1 = true := by
      cases hb : q.2.2.1 with
      | true => rfl
      | false => rw [hb] at c_20; exact absurd rfl c_20
    refine ev_aload_n d_Model_behindCharset_23 rfl rfl ?_
    refine mo_get (fa_Model_70 rfl rfl) d_Model_behindCharset_24 rfl ?_
    refine ev_iload_n d_Model_behindCharset_27 rfl rfl ?_
    refine mo_ald hT d_Model_behindCharset_28 (by decide) (hin 21 rfl) ?_
    rw [nI_clamp (by omega), r21]
    refine ev_if_le (tgt := 34) d_Model_behindCharset_29 (by decide) (fun c_29 => ?_) (fun c_29 => ?_)
    · have hch : chOf q = chq q.2.2.2 := if_pos ⟨hcd, fun z => absurd z (Int32.not_lt.mpr c_29)⟩
      refine ev_iload_n d_Model_behindCharset_34 rfl rfl ?_
      refine ev_istore d_Model_behindCharset_35 (by decide) ?_
      have hv := cnt_le (neq 39) q.2.2.2
      have hv2 := cnt_le (neq 39) (q.2.2.2.drop (cnt (neq 39) q.2.2.2 + 1))
      rw [List.length_drop] at hv2
      refine l_Model_bc1 hT (by omega) q.2.2.2 c n2 rfl ?_
      refine ev_iload d_Model_behindCharset_61 rfl ?_
      refine ev_iconst (v := 1) d_Model_behindCharset_63 (by decide) ?_
      refine ev_iadd d_Model_behindCharset_64 ?_
      refine ev_istore d_Model_behindCharset_65 (by decide) ?_
      rw [show nI (c + cnt (neq 39) q.2.2.2) + 1 = nI (c + cnt (neq 39) q.2.2.2 + 1) from nI_1 _]
      refine l_Model_bc2 hT (by omega) (q.2.2.2.drop (cnt (neq 39) q.2.2.2 + 1)) (c + cnt (neq 39) q.2.2.2 + 1) ?_ ?_ (by omega) ?_
      · have := hol_drop n2 (cnt (neq 39) q.2.2.2 + 1)
        rw [show c + (cnt (neq 39) q.2.2.2 + 1) = c + cnt (neq 39) q.2.2.2 + 1 by omega] at this
        exact this
      · rw [List.length_drop]
        by_cases hlt : cnt (neq 39) q.2.2.2 < q.2.2.2.length
        · left; omega
        · right
          exact ⟨List.drop_eq_nil_of_le (by omega), by omega⟩
      refine ev_iload d_Model_behindCharset_91 rfl ?_
      refine ev_iload_n d_Model_behindCharset_93 rfl rfl ?_
      refine ev_icmp_lt (tgt := 99) d_Model_behindCharset_94 (by decide) (fun c_94 => ?_) (fun c_94 => ?_)
      · have hlt : cnt (neq 39) q.2.2.2 + 1 + cnt (neq 39) (q.2.2.2.drop (cnt (neq 39) q.2.2.2 + 1)) < q.2.2.2.length := by
          have := (nI_ltI (by omega) (by omega)).mp c_94
          omega
        have hc2 : chOf q = some ((q.2.2.2.take (cnt (neq 39) q.2.2.2)).map sp_small, q.2.2.2.drop (cnt (neq 39) q.2.2.2 + 1 + cnt (neq 39) (q.2.2.2.drop (cnt (neq 39) q.2.2.2 + 1)) + 1)) := by
          rw [hch]
          exact if_pos hlt
        refine ev_iload_n d_Model_behindCharset_99 rfl rfl ?_
        refine ev_istore d_Model_behindCharset_100 (by decide) ?_
        have K := l_Model_bc3 (G := G) (cI := cI) (cZ := cZ) (h0 := h0) (M := M) (I := I) (q := nI i) (y := nI (c + q.2.2.2.length)) hT (e := c + cnt (neq 39) q.2.2.2) (a := c) (s := c + cnt (neq 39) q.2.2.2 + 1 + cnt (neq 39) (q.2.2.2.drop (cnt (neq 39) q.2.2.2 + 1))) (by omega) (by omega) (q.2.2.2.take (cnt (neq 39) q.2.2.2)) c [] R (hol_take n2 _) (by rw [List.length_take]; omega) rfl (hol_nil _ _)
        refine ev_as [(0, .ref M), (1, .int (nI i)), (2, .int (nI c)), (3, .int (nI (c + q.2.2.2.length))), (4, .int (nI (c + cnt (neq 39) q.2.2.2))), (5, .int (nI (c + cnt (neq 39) q.2.2.2 + 1 + cnt (neq 39) (q.2.2.2.drop (cnt (neq 39) q.2.2.2 + 1))))), (6, .int (nI c))] ⟨rfl, rfl, rfl, rfl, rfl, rfl, rfl, trivial⟩ (ev_to K ?_)
        rintro o h' ⟨v, rfl, rfl, R', rfl, q1, q2⟩
        rw [hc2]
        refine ⟨_, rfl, ?_, R', rfl, q1, q2⟩
        rw [List.length_drop]
        congr 2
        omega
      · have hc2 : chOf q = none := by
          rw [hch]
          exact if_neg fun z => c_94 (nI_lt (by omega) (by omega))
        refine ev_iload_n d_Model_behindCharset_97 rfl rfl ?_
        refine ev_iret d_Model_behindCharset_98 rfl ?_
        rw [hc2]
        exact ⟨_, rfl, rfl, rfl⟩
    · exact back (if_neg fun z => z.2 (Int32.not_le.mp c_29))
end VALUE
