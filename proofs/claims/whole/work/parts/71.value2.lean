/-! the reference: a parameter's bytes into the hand -/
section VALUE2
variable {G : gl_G} {cI cZ : ClassId} {h0 : hp_T} {M : Nat}
theorem upd_upd (f : Nat → Int32) (k : Nat) (v w : Int32) : upd (upd f k v) k w = upd f k w := by
  funext j
  unfold upd
  by_cases h : j = k
  · rw [if_pos h, if_pos h]
  · rw [if_neg h, if_neg h, if_neg h]
theorem dec1_n {cd : Bool} {c : Int32} {t : List Int32} (h : ¬ (cd = true ∧ c = 37 ∧ 2 ≤ t.length ∧ ¬ sp_hex (t.getD 0 0) < 0 ∧ ¬ sp_hex (t.getD 1 0) < 0)) : dec1 cd c t = (c, t) := if_neg h
theorem l_Model_takeValue (hT : (gl_t G)[0]? = some (cI, .int)) (hZ : (gl_t G)[1]? = some (cZ, .boolean)) {cd : Bool} {i e : Nat} (hi : i < 800) (he : e ≤ 1600) : ∀ (n : Nat) (t : List Int32) (k : Nat) (cur : List Int32) (I : Nat → Int32) (R : Nat → Nat → Int32), t.length ≤ n → hol (R 25) k t → k + t.length = e → I 37 = nI cur.length → hol (R 26) 0 cur → cur.length + t.length ≤ 1600 → R 22 i = bI cd →
    ev_E G m_Model_takeValue 13 [(0, .ref M), (1, .int (nI i)), (2, .int (nI k)), (3, .int (nI e))] [] (mo_ov cI cZ h0 M I R) (cn (fun h' => ∃ R', h' = mo_ov cI cZ h0 M (upd I 37 (nI (cur ++ decS cd n t).length)) R' ∧ hol (R' 26) 0 (cur ++ decS cd n t) ∧ sm [26] R R')) := by
  intro n
  induction n with
  | zero =>
    intro t k cur I R hn hh hl h37 hc hb h22
    have : t = [] := List.length_eq_zero_iff.mp (by omega)
    subst this
    refine ev_iload_n d_Model_takeValue_13 rfl rfl ?_
    refine ev_iload_n d_Model_takeValue_14 rfl rfl ?_
    refine ev_icmp_ge (tgt := 155) d_Model_takeValue_15 (by decide) (fun _ => ?_) (fun z => absurd (nI_le (a := e) (b := k) (by simp at hl; omega) (by simp at hl; omega)) z)
    refine ev_vret d_Model_takeValue_155 rfl ?_
    refine ⟨rfl, R, ?_, by simpa [decS] using hc, sm_rf _ _⟩
    rw [show (cur ++ decS cd 0 []) = cur by simp [decS], ← h37]
    congr 1
    funext j
    unfold upd
    by_cases hj : j = 37
    · rw [if_pos hj, hj]
    · rw [if_neg hj]
  | succ n ih =>
    intro t k cur I R hn hh hl h37 hc hb h22
    match t, hn, hh, hl, hb with
    | [], hn, hh, hl, hb =>
      refine ev_iload_n d_Model_takeValue_13 rfl rfl ?_
      refine ev_iload_n d_Model_takeValue_14 rfl rfl ?_
      refine ev_icmp_ge (tgt := 155) d_Model_takeValue_15 (by decide) (fun _ => ?_) (fun z => absurd (nI_le (a := e) (b := k) (by simp at hl; omega) (by simp at hl; omega)) z)
      refine ev_vret d_Model_takeValue_155 rfl ?_
      refine ⟨rfl, R, ?_, by simpa [decS] using hc, sm_rf _ _⟩
      rw [show (cur ++ decS cd (n + 1) []) = cur by simp [decS], ← h37]
      congr 1
      funext j
      unfold upd
      by_cases hj : j = 37
      · rw [if_pos hj, hj]
      · rw [if_neg hj]
    | c :: t, hn, hh, hl, hb =>
      simp only [List.length_cons] at hn hl hb
      obtain ⟨hx, ht⟩ := hol_cons hh
      have hin : vp_in (nI k) (mo_len 25) := vp_in_nI (show k < 1600 by omega) (by decide)
      have hinZ : vp_in (nI i) (mo_len 22) := vp_in_nI (show i < 800 by omega) (by decide)
      have hin2 : vp_in (nI cur.length) (mo_len 26) := vp_in_nI (show cur.length < 1600 by omega) (by decide)
      -- behind the store: on with what is left
      have on : ∀ (w : Int32) (u : List Int32) (k' : Nat), dec1 cd c t = (w, u) → hol (R 25) k' u → k' + u.length = e → u.length ≤ t.length → ev_E G m_Model_takeValue 13 [(0, .ref M), (1, .int (nI i)), (2, .int (nI k')), (3, .int (nI e))] [] (mo_ov cI cZ h0 M (upd I 37 (nI (cur.length + 1))) (va_up R 26 (upd (R 26) cur.length w))) (cn (fun h' => ∃ R', h' = mo_ov cI cZ h0 M (upd I 37 (nI (cur ++ decS cd (n + 1) (c :: t)).length)) R' ∧ hol (R' 26) 0 (cur ++ decS cd (n + 1) (c :: t)) ∧ sm [26] R R')) := by
        intro w u k' hd hu hk hul
        have hs2 := hol_snoc hc w
        rw [Nat.zero_add] at hs2
        have K := ih u k' (cur ++ [w]) (upd I 37 (nI (cur.length + 1))) (va_up R 26 (upd (R 26) cur.length w)) (by omega) (by rw [up_ne (by decide)]; exact hu) hk (by simp [upd]) (by rw [va_up_self]; exact hs2) (by simp; omega) (by rw [up_ne (by decide)]; exact h22)
        refine ev_to K ?_
        rintro o h' ⟨rfl, R', rfl, q1, q2⟩
        have e1 : decS cd (n + 1) (c :: t) = w :: decS cd n u := by
          show (dec1 cd c t).1 :: decS cd n (dec1 cd c t).2 = _
          rw [hd]
        have e2 : cur ++ [w] ++ decS cd n u = cur ++ decS cd (n + 1) (c :: t) := by rw [e1]; simp
        exact ⟨rfl, R', by rw [upd_upd, e2], by rw [← e2]; exact q1, sm_tr (sm_up (by decide)) q2⟩
      have t0 : dec1 cd c t = (c, t) → ev_E G m_Model_takeValue 77 [(0, .ref M), (1, .int (nI i)), (2, .int (nI k)), (3, .int (nI e))] [] (mo_ov cI cZ h0 M I R) (cn (fun h' => ∃ R', h' = mo_ov cI cZ h0 M (upd I 37 (nI (cur ++ decS cd (n + 1) (c :: t)).length)) R' ∧ hol (R' 26) 0 (cur ++ decS cd (n + 1) (c :: t)) ∧ sm [26] R R')) := by
        intro hd
        refine ev_iconst (v := 0) d_Model_takeValue_77 (by decide) ?_
        refine ev_istore d_Model_takeValue_78 (by decide) ?_
        refine ev_aload_n d_Model_takeValue_80 rfl rfl ?_
        refine mo_get (fa_Model_86 rfl rfl) d_Model_takeValue_81 rfl ?_
        refine ev_aload_n d_Model_takeValue_84 rfl rfl ?_
        refine mo_get (fa_Model_92 rfl rfl) d_Model_takeValue_85 rfl ?_
        refine ev_iload d_Model_takeValue_88 rfl ?_
        rw [h37]
        refine ev_if_eq (tgt := 122) d_Model_takeValue_90 (by decide) (fun _ => ?_) (fun z => absurd rfl z)
        refine ev_aload_n d_Model_takeValue_122 rfl rfl ?_
        refine mo_get (fa_Model_83 rfl rfl) d_Model_takeValue_123 rfl ?_
        refine ev_iload_n d_Model_takeValue_126 rfl rfl ?_
        refine mo_ald hT d_Model_takeValue_127 (by decide) hin ?_
        rw [nI_clamp (by omega), hx]
        refine mo_ast hT d_Model_takeValue_128 (by decide) hin2 ?_
        rw [nI_clamp (by omega)]
        refine ev_aload_n d_Model_takeValue_129 rfl rfl ?_
        refine ev_dup d_Model_takeValue_130 rfl ?_
        refine mo_get (fa_Model_92 rfl rfl) d_Model_takeValue_131 rfl ?_
        refine ev_iconst (v := 1) d_Model_takeValue_134 (by decide) ?_
        refine ev_iadd d_Model_takeValue_135 ?_
        rw [h37, nI_1]
        refine mo_put (fp_Model_92 rfl rfl) d_Model_takeValue_136 (Nat.le_of_ble_eq_true rfl) rfl rfl rfl ?_
        refine ev_iload_n d_Model_takeValue_139 rfl rfl ?_
        refine ev_iload d_Model_takeValue_140 rfl ?_
        refine ev_if_eq (tgt := 149) d_Model_takeValue_142 (by decide) (fun _ => ?_) (fun z => absurd rfl z)
        refine ev_iconst (v := 1) d_Model_takeValue_149 (by decide) ?_
        refine ev_iadd d_Model_takeValue_150 ?_
        rw [nI_1]
        refine ev_istore_n d_Model_takeValue_151 rfl (by decide) ?_
        refine ev_goto (tgt := 13) d_Model_takeValue_152 (by decide) ?_
        refine ev_as [(0, .ref M), (1, .int (nI i)), (2, .int (nI (k + 1))), (3, .int (nI e))] ⟨rfl, rfl, rfl, rfl, trivial⟩ ?_
        exact on c t (k + 1) hd ht (by omega) (Nat.le_refl _)
      refine ev_iload_n d_Model_takeValue_13 rfl rfl ?_
      refine ev_iload_n d_Model_takeValue_14 rfl rfl ?_
      refine ev_icmp_ge (tgt := 155) d_Model_takeValue_15 (by decide) (fun z => absurd z (nI_ge (a := k) (b := e) (by omega) (by omega))) (fun _ => ?_)
      refine ev_aload_n d_Model_takeValue_18 rfl rfl ?_
      refine mo_get (fa_Model_73 rfl rfl) d_Model_takeValue_19 rfl ?_
      refine ev_iload_n d_Model_takeValue_22 rfl rfl ?_
      refine mo_zald hZ d_Model_takeValue_23 hinZ ?_
      rw [nI_clamp (by omega), h22]
      refine ev_if_eq (tgt := 77) d_Model_takeValue_24 (by decide) (fun c_24 => ?_) (fun c_24 => ?_)
      · refine t0 (dec1_n fun z => ?_)
        rw [z.1] at c_24
        exact absurd c_24 (by decide)
      · have hcd : cd = true := by
          cases cd with
          | true => rfl
          | false => exact absurd rfl c_24
        refine ev_aload_n d_Model_takeValue_27 rfl rfl ?_
        refine mo_get (fa_Model_83 rfl rfl) d_Model_takeValue_28 rfl ?_
        refine ev_iload_n d_Model_takeValue_31 rfl rfl ?_
        refine mo_ald hT d_Model_takeValue_32 (by decide) hin ?_
        refine ev_bipush (v := 37) d_Model_takeValue_33 (by decide) ?_
        rw [nI_clamp (by omega), hx]
        refine ev_icmp_ne (tgt := 77) d_Model_takeValue_35 (by decide) (fun c_35 => ?_) (fun c_35 => ?_)
        · exact t0 (dec1_n fun z => c_35 z.2.1)
        · have hc37 : c = 37 := by
            by_cases q : c = 37
            · exact q
            · first | exact absurd q c_35 | exact c_35
          refine ev_iload_n d_Model_takeValue_38 rfl rfl ?_
          refine ev_iconst (v := 2) d_Model_takeValue_39 (by decide) ?_
          refine ev_iadd d_Model_takeValue_40 ?_
          rw [show nI k + 2 = nI (k + 2) from nI_add k 2]
          refine ev_iload_n d_Model_takeValue_41 rfl rfl ?_
          refine ev_icmp_ge (tgt := 77) d_Model_takeValue_42 (by decide) (fun c_42 => ?_) (fun c_42 => ?_)
          · have h2 := (nI_leI (by omega) (by omega)).mp c_42
            exact t0 (dec1_n fun z => by have := z.2.2.1; omega)
          · have h2 : 2 ≤ t.length := by
              rcases Nat.lt_or_ge t.length 2 with q | q
              · exact absurd (nI_le (a := e) (b := k + 2) (by omega) (by omega)) c_42
              · exact q
            match t, h2, ht, hl, hn, hb, t0, on with
            | x :: y :: u, h2, ht, hl, hn, hb, t0, on =>
              simp only [List.length_cons] at hl hn hb
              obtain ⟨hx1, ht1⟩ := hol_cons ht
              obtain ⟨hx2, ht2⟩ := hol_cons ht1
              have hin1 : vp_in (nI (k + 1)) (mo_len 25) := vp_in_nI (show k + 1 < 1600 by omega) (by decide)
              have hin3 : vp_in (nI (k + 2)) (mo_len 25) := vp_in_nI (show k + 2 < 1600 by omega) (by decide)
              refine ev_aload_n d_Model_takeValue_45 rfl rfl ?_
              refine mo_get (fa_Model_83 rfl rfl) d_Model_takeValue_46 rfl ?_
              refine ev_iload_n d_Model_takeValue_49 rfl rfl ?_
              refine ev_iconst (v := 1) d_Model_takeValue_50 (by decide) ?_
              refine ev_iadd d_Model_takeValue_51 ?_
              rw [nI_1]
              refine mo_ald hT d_Model_takeValue_52 (by decide) hin1 ?_
              rw [nI_clamp (by omega), hx1]
              refine ev_Sv [.int x] [] ca_Model_takeValue_362 d_Model_takeValue_53 rfl (Nat.le_of_ble_eq_true rfl) (c_Model_sixteenth x) ?_
              refine ev_if_lt (tgt := 77) d_Model_takeValue_56 (by decide) (fun c_56 => ?_) (fun c_56 => ?_)
              · exact t0 (dec1_n fun z => z.2.2.2.1 c_56)
              · refine ev_aload_n d_Model_takeValue_59 rfl rfl ?_
                refine mo_get (fa_Model_83 rfl rfl) d_Model_takeValue_60 rfl ?_
                refine ev_iload_n d_Model_takeValue_63 rfl rfl ?_
                refine ev_iconst (v := 2) d_Model_takeValue_64 (by decide) ?_
                refine ev_iadd d_Model_takeValue_65 ?_
                rw [show nI k + 2 = nI (k + 2) from nI_add k 2]
                refine mo_ald hT d_Model_takeValue_66 (by decide) hin3 ?_
                rw [nI_clamp (by omega), show k + 2 = k + 1 + 1 by omega, hx2]
                refine ev_Sv [.int y] [] ca_Model_takeValue_362 d_Model_takeValue_67 rfl (Nat.le_of_ble_eq_true rfl) (c_Model_sixteenth y) ?_
                refine ev_if_lt (tgt := 77) d_Model_takeValue_70 (by decide) (fun c_70 => ?_) (fun c_70 => ?_)
                · exact t0 (dec1_n fun z => z.2.2.2.2 c_70)
                · refine ev_iconst (v := 1) d_Model_takeValue_73 (by decide) ?_
                  refine ev_goto (tgt := 78) d_Model_takeValue_74 (by decide) ?_
                  refine ev_istore d_Model_takeValue_78 (by decide) ?_
                  refine ev_aload_n d_Model_takeValue_80 rfl rfl ?_
                  refine mo_get (fa_Model_86 rfl rfl) d_Model_takeValue_81 rfl ?_
                  refine ev_aload_n d_Model_takeValue_84 rfl rfl ?_
                  refine mo_get (fa_Model_92 rfl rfl) d_Model_takeValue_85 rfl ?_
                  refine ev_iload d_Model_takeValue_88 rfl ?_
                  rw [h37]
                  refine ev_if_eq (tgt := 122) d_Model_takeValue_90 (by decide) (fun z => absurd (show (1 : Int32) = 0 from z) (by decide)) (fun _ => ?_)
                  refine ev_bipush (v := 16) d_Model_takeValue_93 (by decide) ?_
                  refine ev_aload_n d_Model_takeValue_95 rfl rfl ?_
                  refine mo_get (fa_Model_83 rfl rfl) d_Model_takeValue_96 rfl ?_
                  refine ev_iload_n d_Model_takeValue_99 rfl rfl ?_
                  refine ev_iconst (v := 1) d_Model_takeValue_100 (by decide) ?_
                  refine ev_iadd d_Model_takeValue_101 ?_
                  rw [nI_1]
                  refine mo_ald hT d_Model_takeValue_102 (by decide) hin1 ?_
                  rw [nI_clamp (by omega), hx1]
                  refine ev_Sv [.int x] [.int 16, .int (nI cur.length), .ref (M + 26)] ca_Model_takeValue_362 d_Model_takeValue_103 rfl (Nat.le_of_ble_eq_true rfl) (c_Model_sixteenth x) ?_
                  refine ev_imul d_Model_takeValue_106 ?_
                  refine ev_aload_n d_Model_takeValue_107 rfl rfl ?_
                  refine mo_get (fa_Model_83 rfl rfl) d_Model_takeValue_108 rfl ?_
                  refine ev_iload_n d_Model_takeValue_111 rfl rfl ?_
                  refine ev_iconst (v := 2) d_Model_takeValue_112 (by decide) ?_
                  refine ev_iadd d_Model_takeValue_113 ?_
                  rw [show nI k + 2 = nI (k + 2) from nI_add k 2]
                  refine mo_ald hT d_Model_takeValue_114 (by decide) hin3 ?_
                  rw [nI_clamp (by omega), show k + 2 = k + 1 + 1 by omega, hx2]
                  refine ev_Sv [.int y] [.int (16 * sp_hex x), .int (nI cur.length), .ref (M + 26)] ca_Model_takeValue_362 d_Model_takeValue_115 rfl (Nat.le_of_ble_eq_true rfl) (c_Model_sixteenth y) ?_
                  refine ev_iadd d_Model_takeValue_118 ?_
                  refine ev_goto (tgt := 128) d_Model_takeValue_119 (by decide) ?_
                  refine mo_ast hT d_Model_takeValue_128 (by decide) hin2 ?_
                  rw [nI_clamp (by omega)]
                  refine ev_aload_n d_Model_takeValue_129 rfl rfl ?_
                  refine ev_dup d_Model_takeValue_130 rfl ?_
                  refine mo_get (fa_Model_92 rfl rfl) d_Model_takeValue_131 rfl ?_
                  refine ev_iconst (v := 1) d_Model_takeValue_134 (by decide) ?_
                  refine ev_iadd d_Model_takeValue_135 ?_
                  rw [h37, nI_1]
                  refine mo_put (fp_Model_92 rfl rfl) d_Model_takeValue_136 (Nat.le_of_ble_eq_true rfl) rfl rfl rfl ?_
                  refine ev_iload_n d_Model_takeValue_139 rfl rfl ?_
                  refine ev_iload d_Model_takeValue_140 rfl ?_
                  refine ev_if_eq (tgt := 149) d_Model_takeValue_142 (by decide) (fun z => absurd (show (1 : Int32) = 0 from z) (by decide)) (fun _ => ?_)
                  refine ev_iconst (v := 3) d_Model_takeValue_145 (by decide) ?_
                  refine ev_goto (tgt := 150) d_Model_takeValue_146 (by decide) ?_
                  refine ev_iadd d_Model_takeValue_150 ?_
                  rw [show nI k + 3 = nI (k + 3) from nI_add k 3]
                  refine ev_istore_n d_Model_takeValue_151 rfl (by decide) ?_
                  refine ev_goto (tgt := 13) d_Model_takeValue_152 (by decide) ?_
                  refine ev_as [(0, .ref M), (1, .int (nI i)), (2, .int (nI (k + 3))), (3, .int (nI e))] ⟨rfl, rfl, rfl, rfl, trivial⟩ ?_
                  exact on _ u (k + 3) (if_pos ⟨hcd, hc37, h2, c_56, c_70⟩) ht2 (by omega) (by simp only [List.length_cons]; omega)
/-- what a parameter puts into the hand -/
def vlOf (q : Prm) : List Int32 := match chOf q with
  | none => decS q.2.2.1 q.2.2.2.length q.2.2.2
  | some (_, bs) => decS q.2.2.1 q.2.2.2.length bs
theorem chOf_len {q : Prm} {ch bs : List Int32} (h : chOf q = some (ch, bs)) : ch.length ≤ q.2.2.2.length ∧ bs.length ≤ q.2.2.2.length ∧ bs = q.2.2.2.drop (q.2.2.2.length - bs.length) := by
  unfold chOf at h
  split at h
  · unfold chq at h
    split at h
    · cases h
      refine ⟨?_, ?_, ?_⟩
      · simp only [List.length_map, List.length_take]; omega
      · simp only [List.length_drop]; omega
      · simp only [List.length_drop]
        congr 1
        omega
    · cases h
  · cases h
theorem vlOf_len (q : Prm) : (vlOf q).length ≤ q.2.2.2.length := by
  unfold vlOf
  split
  · exact decS_len _ _ _ (Nat.le_refl _)
  · next ch bs h =>
    have h1 := chOf_len h
    exact Nat.le_trans (decS_len _ _ _ h1.2.1) h1.2.1
/-- the charset in hand behind it -/
def c38 (q : Prm) (I : Nat → Int32) : Nat → Int32 := match chOf q with
  | none => I
  | some (ch, _) => upd I 38 (nI ch.length)
/-- takeValue, of parameter number i -/
theorem c_Model_takeValue (hT : (gl_t G)[0]? = some (cI, .int)) (hZ : (gl_t G)[1]? = some (cZ, .boolean)) {I : Nat → Int32} {R : Nat → Nat → Int32} {i : Nat} {q : Prm} (hi : i < 800) (hq : prAt R 1600 i q) {cur : List Int32} (h37 : I 37 = nI cur.length) (hc : hol (R 26) 0 cur) (hb : cur.length + q.2.2.2.length ≤ 1600) : ct_E G m_Model_takeValue [.ref M, .int (nI i)] (mo_ov cI cZ h0 M I R) (cn (fun h' => ∃ R', h' = mo_ov cI cZ h0 M (upd (c38 q I) 37 (nI (cur ++ vlOf q).length)) R' ∧ hol (R' 26) 0 (cur ++ vlOf q) ∧ (∀ ch bs, chOf q = some (ch, bs) → hol (R' 27) 0 ch) ∧ (chOf q = none → R' 27 = R 27) ∧ sm [26, 27] R R')) := by
  have hq0 := hq
  obtain ⟨a, c, r19, r20, r21, r22, r23, r24, b1, b2, n1, n2⟩ := hq
  have hin : vp_in (nI i) (mo_len 24) := vp_in_nI (show i < 800 by omega) (by decide)
  refine ct_of (ws' := tb_all) rfl rfl (Nat.le_of_ble_eq_true rfl) ?_
  refine ev_aload_n d_Model_takeValue_0 rfl rfl ?_
  refine ev_iload_n d_Model_takeValue_1 rfl rfl ?_
  refine mo_Vr [.int (nI i)] [] ca_Model_takeValue_359 d_Model_takeValue_2 rfl (Nat.le_of_ble_eq_true rfl) (c_Model_behindCharset hT hZ hi hq0 r23 (by omega)) (fun v h1 z => ?_)
  cases hch : chOf q with
  | none =>
    rw [hch] at z
    obtain ⟨rfl, rfl⟩ := z
    refine ev_istore_n d_Model_takeValue_5 rfl (by decide) ?_
    refine ev_aload_n d_Model_takeValue_6 rfl rfl ?_
    refine mo_get (fa_Model_80 rfl rfl) d_Model_takeValue_7 rfl ?_
    refine ev_iload_n d_Model_takeValue_10 rfl rfl ?_
    refine mo_ald hT d_Model_takeValue_11 (by decide) hin ?_
    rw [nI_clamp (by omega), r24]
    refine ev_istore_n d_Model_takeValue_12 rfl (by decide) ?_
    have K := l_Model_takeValue (G := G) (h0 := h0) (M := M) (cd := q.2.2.1) (i := i) (e := c + q.2.2.2.length) hT hZ hi (by omega) q.2.2.2.length q.2.2.2 c cur I R (Nat.le_refl _) n2 rfl h37 hc hb r22
    refine ev_to K ?_
    rintro o h' ⟨rfl, R', rfl, q1, q2⟩
    have e1 : vlOf q = decS q.2.2.1 q.2.2.2.length q.2.2.2 := by unfold vlOf; rw [hch]
    have e2 : c38 q I = I := by unfold c38; rw [hch]
    refine ⟨rfl, R', by rw [e1, e2], by rw [e1]; exact q1, fun ch bs hx => by (cases hx), fun _ => q2 27 (by decide), sm_mono q2 (by decide)⟩
  | some x =>
    obtain ⟨ch, bs⟩ := x
    rw [hch] at z
    obtain ⟨rfl, R1, rfl, p1, p2⟩ := z
    obtain ⟨l1, l2, l3⟩ := chOf_len hch
    refine ev_istore_n d_Model_takeValue_5 rfl (by decide) ?_
    refine ev_aload_n d_Model_takeValue_6 rfl rfl ?_
    refine mo_get (fa_Model_80 rfl rfl) d_Model_takeValue_7 rfl ?_
    refine ev_iload_n d_Model_takeValue_10 rfl rfl ?_
    refine mo_ald hT d_Model_takeValue_11 (by decide) hin ?_
    rw [nI_clamp (by omega), p2 24 (by decide), r24]
    refine ev_istore_n d_Model_takeValue_12 rfl (by decide) ?_
    have hd := hol_drop n2 (q.2.2.2.length - bs.length)
    rw [← l3] at hd
    have K := l_Model_takeValue (G := G) (h0 := h0) (M := M) (cd := q.2.2.1) (i := i) (e := c + q.2.2.2.length) hT hZ hi (by omega) q.2.2.2.length bs (c + (q.2.2.2.length - bs.length)) cur (upd I 38 (nI ch.length)) R1 l2 (by rw [p2 25 (by decide)]; exact hd) (by omega) h37 (by rw [p2 26 (by decide)]; exact hc) (by omega) (by rw [p2 22 (by decide)]; exact r22)
    refine ev_to K ?_
    rintro o h' ⟨rfl, R', rfl, q1, q2⟩
    have e1 : vlOf q = decS q.2.2.1 q.2.2.2.length bs := by unfold vlOf; rw [hch]
    have e2 : c38 q I = upd I 38 (nI ch.length) := by unfold c38; rw [hch]
    refine ⟨rfl, R', by rw [e1, e2], by rw [e1]; exact q1, fun ch' bs' hx => ?_, fun hx => by (cases hx), sm_tr (sm_mono p2 (by decide)) (sm_mono q2 (by decide))⟩
    cases hx
    rw [q2 27 (by decide)]
    exact p1
end VALUE2
