/-! the reference: identities -/
def neq (c : Int32) (b : Int32) : Bool := decide (¬ b = c)
def anyBl : List Int32 → Bool
  | [] => false
  | x :: t => isBl x || anyBl t
/-- the identities of what is left -/
def idS : Nat → List Int32 → List (List Int32)
  | 0, _ => []
  | n + 1, l =>
    if l = [] then [] else
    (if cnt (neq 62) (l.drop (cnt (neq 60) l)) < (l.drop (cnt (neq 60) l)).length ∧ anyBl (((l.drop (cnt (neq 60) l)).take (cnt (neq 62) (l.drop (cnt (neq 60) l)))).drop 1) = false ∧ 2 ≤ cnt (neq 62) (l.drop (cnt (neq 60) l)) ∧ cnt (neq 62) (l.drop (cnt (neq 60) l)) ≤ 101 then [((l.drop (cnt (neq 60) l)).take (cnt (neq 62) (l.drop (cnt (neq 60) l)))).drop 1] else [])
      ++ idS n ((l.drop (cnt (neq 60) l)).drop (cnt (neq 62) (l.drop (cnt (neq 60) l)) + 1))
section IDS
variable {G : gl_G} {cI cZ : ClassId} {h0 : hp_T} {M : Nat} {I : Nat → Int32}
theorem l_Model_id1 (hT : (gl_t G)[0]? = some (cI, .int)) {R : Nat → Nat → Int32} {e : Nat} {f x : Int32} (he : e ≤ 1501) {Z : Option Value → hp_T → Prop} : ∀ (t : List Int32) (k : Nat), hol (R 7) k t → k + t.length = e →
    ev_E G m_Model_identities 81 [(0, .ref M), (1, .int f), (2, .int x), (3, .int (nI e)), (4, .int (nI (k + cnt (neq 60) t)))] [] (mo_ov cI cZ h0 M I R) Z →
    ev_E G m_Model_identities 57 [(0, .ref M), (1, .int f), (2, .int x), (3, .int (nI e)), (4, .int (nI k))] [] (mo_ov cI cZ h0 M I R) Z := by
  intro t
  induction t with
  | nil =>
    intro k hh hl K
    refine ev_iload d_Model_identities_57 rfl ?_
    refine ev_iload_n d_Model_identities_59 rfl rfl ?_
    refine ev_icmp_ge (tgt := 81) d_Model_identities_60 (by decide) (fun c_60 => ?_) (fun c_60 => ?_)
    · exact K
    · exact absurd (nI_le (a := e) (b := k) (by simp at hl; omega) (by simp at hl; omega)) c_60
  | cons c t ih =>
    intro k hh hl K
    simp only [List.length_cons] at hl
    obtain ⟨hx, ht⟩ := hol_cons hh
    have hin : vp_in (nI k) (mo_len 7) := vp_in_nI (show k < 1600 by omega) (by decide)
    refine ev_iload d_Model_identities_57 rfl ?_
    refine ev_iload_n d_Model_identities_59 rfl rfl ?_
    refine ev_icmp_ge (tgt := 81) d_Model_identities_60 (by decide) (fun c_60 => ?_) (fun c_60 => ?_)
    · exact absurd c_60 (nI_ge (a := k) (b := e) (by omega) (by omega))
    · refine ev_aload_n d_Model_identities_63 rfl rfl ?_
      refine mo_get (fa_Model_28 rfl rfl) d_Model_identities_64 rfl ?_
      refine ev_iload d_Model_identities_67 rfl ?_
      refine mo_ald hT d_Model_identities_69 (by decide) hin ?_
      refine ev_bipush (v := 60) d_Model_identities_70 (by decide) ?_
      rw [nI_clamp (by omega), hx]
      refine ev_icmp_eq (tgt := 81) d_Model_identities_72 (by decide) (fun c_72 => ?_) (fun c_72 => ?_)
      · rw [cnt_no (show neq 60 c = false from decide_eq_false (fun z => z c_72))] at K
        exact K
      · refine ev_iinc d_Model_identities_75 rfl (by decide) ?_
        refine ev_goto (tgt := 57) d_Model_identities_78 (by decide) ?_
        rw [cnt_yes (show neq 60 c = true from decide_eq_true c_72), show k + (cnt (neq 60) t + 1) = k + 1 + cnt (neq 60) t by omega] at K
        refine ev_as [(0, .ref M), (1, .int f), (2, .int x), (3, .int (nI e)), (4, .int (nI (k + 1)))] ⟨rfl, rfl, rfl, rfl, ?_, trivial⟩ (ih (k + 1) ht (by omega) K)
        show some (Value.int (nI k + 1)) = _
        rw [nI_succ]
theorem l_Model_id2 (hT : (gl_t G)[0]? = some (cI, .int)) {R : Nat → Nat → Int32} {e : Nat} {f x y : Int32} (he : e ≤ 1501) {Z : Option Value → hp_T → Prop} : ∀ (t : List Int32) (k : Nat), hol (R 7) k t → k + t.length = e →
    ev_E G m_Model_identities 109 [(0, .ref M), (1, .int f), (2, .int x), (3, .int (nI e)), (4, .int y), (5, .int (nI (k + cnt (neq 62) t)))] [] (mo_ov cI cZ h0 M I R) Z →
    ev_E G m_Model_identities 85 [(0, .ref M), (1, .int f), (2, .int x), (3, .int (nI e)), (4, .int y), (5, .int (nI k))] [] (mo_ov cI cZ h0 M I R) Z := by
  intro t
  induction t with
  | nil =>
    intro k hh hl K
    refine ev_iload d_Model_identities_85 rfl ?_
    refine ev_iload_n d_Model_identities_87 rfl rfl ?_
    refine ev_icmp_ge (tgt := 109) d_Model_identities_88 (by decide) (fun c_88 => ?_) (fun c_88 => ?_)
    · exact K
    · exact absurd (nI_le (a := e) (b := k) (by simp at hl; omega) (by simp at hl; omega)) c_88
  | cons c t ih =>
    intro k hh hl K
    simp only [List.length_cons] at hl
    obtain ⟨hx, ht⟩ := hol_cons hh
    have hin : vp_in (nI k) (mo_len 7) := vp_in_nI (show k < 1600 by omega) (by decide)
    refine ev_iload d_Model_identities_85 rfl ?_
    refine ev_iload_n d_Model_identities_87 rfl rfl ?_
    refine ev_icmp_ge (tgt := 109) d_Model_identities_88 (by decide) (fun c_88 => ?_) (fun c_88 => ?_)
    · exact absurd c_88 (nI_ge (a := k) (b := e) (by omega) (by omega))
    · refine ev_aload_n d_Model_identities_91 rfl rfl ?_
      refine mo_get (fa_Model_28 rfl rfl) d_Model_identities_92 rfl ?_
      refine ev_iload d_Model_identities_95 rfl ?_
      refine mo_ald hT d_Model_identities_97 (by decide) hin ?_
      refine ev_bipush (v := 62) d_Model_identities_98 (by decide) ?_
      rw [nI_clamp (by omega), hx]
      refine ev_icmp_eq (tgt := 109) d_Model_identities_100 (by decide) (fun c_100 => ?_) (fun c_100 => ?_)
      · rw [cnt_no (show neq 62 c = false from decide_eq_false (fun z => z c_100))] at K
        exact K
      · refine ev_iinc d_Model_identities_103 rfl (by decide) ?_
        refine ev_goto (tgt := 85) d_Model_identities_106 (by decide) ?_
        rw [cnt_yes (show neq 62 c = true from decide_eq_true c_100), show k + (cnt (neq 62) t + 1) = k + 1 + cnt (neq 62) t by omega] at K
        refine ev_as [(0, .ref M), (1, .int f), (2, .int x), (3, .int (nI e)), (4, .int y), (5, .int (nI (k + 1)))] ⟨rfl, rfl, rfl, rfl, rfl, ?_, trivial⟩ (ih (k + 1) ht (by omega) K)
        show some (Value.int (nI k + 1)) = _
        rw [nI_succ]
theorem l_Model_id3 (hT : (gl_t G)[0]? = some (cI, .int)) {R : Nat → Nat → Int32} {cl : Nat} {f x y e : Int32} (hcl : cl ≤ 1501) {Z : Option Value → hp_T → Prop} : ∀ (t : List Int32) (k : Nat) (b : Bool), hol (R 7) k t → k + t.length = cl →
    (∀ z : Int32, ev_E G m_Model_identities 156 [(0, .ref M), (1, .int f), (2, .int x), (3, .int e), (4, .int y), (5, .int (nI cl)), (6, .int (bI (b || anyBl t))), (7, .int z)] [] (mo_ov cI cZ h0 M I R) Z) →
    ev_E G m_Model_identities 118 [(0, .ref M), (1, .int f), (2, .int x), (3, .int e), (4, .int y), (5, .int (nI cl)), (6, .int (bI b)), (7, .int (nI k))] [] (mo_ov cI cZ h0 M I R) Z := by
  intro t
  induction t with
  | nil =>
    intro k b hh hl K
    refine ev_iload d_Model_identities_118 rfl ?_
    refine ev_iload d_Model_identities_120 rfl ?_
    refine ev_icmp_ge (tgt := 156) d_Model_identities_122 (by decide) (fun c_122 => ?_) (fun c_122 => ?_)
    · have k9 := K (nI k)
      rw [show (b || anyBl []) = b from Bool.or_false b] at k9
      exact k9
    · exact absurd (nI_le (a := cl) (b := k) (by simp at hl; omega) (by simp at hl; omega)) c_122
  | cons c t ih =>
    intro k b hh hl K
    simp only [List.length_cons] at hl
    obtain ⟨hx, ht⟩ := hol_cons hh
    have hin : vp_in (nI k) (mo_len 7) := vp_in_nI (show k < 1600 by omega) (by decide)
    have go2 : ∀ b2 : Bool, b2 = (b || isBl c) → ev_E G m_Model_identities 150 [(0, .ref M), (1, .int f), (2, .int x), (3, .int e), (4, .int y), (5, .int (nI cl)), (6, .int (bI b2)), (7, .int (nI k))] [] (mo_ov cI cZ h0 M I R) Z := by
      intro b2 e2
      refine ev_iinc d_Model_identities_150 rfl (by decide) ?_
      refine ev_goto (tgt := 118) d_Model_identities_153 (by decide) ?_
      refine ev_as [(0, .ref M), (1, .int f), (2, .int x), (3, .int e), (4, .int y), (5, .int (nI cl)), (6, .int (bI b2)), (7, .int (nI (k + 1)))] ⟨rfl, rfl, rfl, rfl, rfl, rfl, rfl, ?_, trivial⟩ (ih (k + 1) b2 ht (by omega) (fun z => ?_))
      · show some (Value.int (nI k + 1)) = _
        rw [nI_succ]
      · have k9 := K z
        rw [show (b || anyBl (c :: t)) = (b2 || anyBl t) by rw [e2]; show (b || (isBl c || anyBl t)) = _; rw [Bool.or_assoc]] at k9
        exact k9
    refine ev_iload d_Model_identities_118 rfl ?_
    refine ev_iload d_Model_identities_120 rfl ?_
    refine ev_icmp_ge (tgt := 156) d_Model_identities_122 (by decide) (fun c_122 => ?_) (fun c_122 => ?_)
    · exact absurd c_122 (nI_ge (a := k) (b := cl) (by omega) (by omega))
    · refine ev_iload d_Model_identities_125 rfl ?_
      refine ev_if_ne (tgt := 143) d_Model_identities_127 (by decide) (fun c_127 => ?_) (fun c_127 => ?_)
      · have hb : b = true := by
          cases b with
          | true => rfl
          | false => exact absurd rfl c_127
        refine ev_iconst (v := 1) d_Model_identities_143 (by decide) ?_
        refine ev_goto (tgt := 148) d_Model_identities_144 (by decide) ?_
        refine ev_istore d_Model_identities_148 (by decide) ?_
        exact go2 true (by rw [hb]; rfl)
      · have hb : b = false := by
          cases b with
          | false => rfl
          | true => exact absurd c_127 (by decide)
        refine ev_aload_n d_Model_identities_130 rfl rfl ?_
        refine mo_get (fa_Model_28 rfl rfl) d_Model_identities_131 rfl ?_
        refine ev_iload d_Model_identities_134 rfl ?_
        refine mo_ald hT d_Model_identities_136 (by decide) hin ?_
        rw [nI_clamp (by omega), hx]
        refine ev_Sv [.int c] [] ca_Model_identities_109 d_Model_identities_137 rfl (Nat.le_of_ble_eq_true rfl) (c_Model_isBlank c) ?_
        refine ev_if_eq (tgt := 147) d_Model_identities_140 (by decide) (fun c_140 => ?_) (fun c_140 => ?_)
        · refine ev_iconst (v := 0) d_Model_identities_147 (by decide) ?_
          refine ev_istore d_Model_identities_148 (by decide) ?_
          exact go2 false (by rw [hb, bl_no c_140]; rfl)
        · refine ev_iconst (v := 1) d_Model_identities_143 (by decide) ?_
          refine ev_goto (tgt := 148) d_Model_identities_144 (by decide) ?_
          refine ev_istore d_Model_identities_148 (by decide) ?_
          exact go2 true (by rw [hb, bl_of c_140]; rfl)
theorem l_Model_id4 (hT : (gl_t G)[0]? = some (cI, .int)) {P : Pts} {ml : Nat → Nat} {cl : Nat} {f x y e z6 z7 : Int32} (hcl : cl ≤ 1501) {Z : Option Value → hp_T → Prop} : ∀ (t : List Int32) (k : Nat) (cur : List Int32) (m : Nat) (R : Nat → Nat → Int32), hol (R 7) k t → k + t.length = cl → pIn P (upN ml 1 m) 4 cur R → m + t.length ≤ 5900 →
    (∀ (R' : Nat → Nat → Int32) (z : Int32), pIn P (upN ml 1 (m + t.length)) 4 (cur ++ t) R' → sm [13, 14, 15, 16, 17] R R' → ev_E G m_Model_identities 225 [(0, .ref M), (1, .int f), (2, .int x), (3, .int e), (4, .int y), (5, .int (nI cl)), (6, .int z6), (7, .int z7), (8, .int z)] [] (mo_ov cI cZ h0 M I R') Z) →
    ev_E G m_Model_identities 200 [(0, .ref M), (1, .int f), (2, .int x), (3, .int e), (4, .int y), (5, .int (nI cl)), (6, .int z6), (7, .int z7), (8, .int (nI k))] [] (mo_ov cI cZ h0 M I R) Z := by
  intro t
  induction t with
  | nil =>
    intro k cur m R hh hl hP hm K
    refine ev_iload d_Model_identities_200 rfl ?_
    refine ev_iload d_Model_identities_202 rfl ?_
    refine ev_icmp_ge (tgt := 225) d_Model_identities_204 (by decide) (fun c_204 => ?_) (fun c_204 => ?_)
    · refine K R (nI k) ?_ (sm_rf _ _)
      rw [List.append_nil]; exact hP
    · exact absurd (nI_le (a := cl) (b := k) (by simp at hl; omega) (by simp at hl; omega)) c_204
  | cons c t ih =>
    intro k cur m R hh hl hP hm K
    simp only [List.length_cons] at hl hm
    obtain ⟨hx, ht⟩ := hol_cons hh
    have hin : vp_in (nI k) (mo_len 7) := vp_in_nI (show k < 1600 by omega) (by decide)
    refine ev_iload d_Model_identities_200 rfl ?_
    refine ev_iload d_Model_identities_202 rfl ?_
    refine ev_icmp_ge (tgt := 225) d_Model_identities_204 (by decide) (fun c_204 => ?_) (fun c_204 => ?_)
    · exact absurd c_204 (nI_ge (a := k) (b := cl) (by omega) (by omega))
    · refine ev_aload_n d_Model_identities_207 rfl rfl ?_
      refine ev_iconst (v := 4) d_Model_identities_208 (by decide) ?_
      refine ev_aload_n d_Model_identities_209 rfl rfl ?_
      refine mo_get (fa_Model_28 rfl rfl) d_Model_identities_210 rfl ?_
      refine ev_iload d_Model_identities_213 rfl ?_
      refine mo_ald hT d_Model_identities_215 (by decide) hin ?_
      rw [nI_clamp (by omega), hx]
      refine mo_Vn [.int (nI 4), .int c] [] ca_Model_identities_191 d_Model_identities_216 rfl (Nat.le_of_ble_eq_true rfl) (c_Model_add (w := 4) hT (by decide) hP (by show upN ml 1 m 1 < 5900; rw [upN_at]; omega) c) (fun h1 z => ?_)
      obtain ⟨R2, rfl, q1, q2⟩ := z
      rw [show ar 4 = 1 from rfl, upN_at, upN_same] at q1
      refine ev_iinc d_Model_identities_219 rfl (by decide) ?_
      refine ev_goto (tgt := 200) d_Model_identities_222 (by decide) ?_
      refine ev_as [(0, .ref M), (1, .int f), (2, .int x), (3, .int e), (4, .int y), (5, .int (nI cl)), (6, .int z6), (7, .int z7), (8, .int (nI (k + 1)))] ⟨rfl, rfl, rfl, rfl, rfl, rfl, rfl, rfl, ?_, trivial⟩ (ih (k + 1) (cur ++ [c]) (m + 1) R2 (by rw [q2 7 (by decide)]; exact ht) (by omega) q1 (by omega) (fun R3 z s1 s2 => ?_))
      · show some (Value.int (nI k + 1)) = _
        rw [nI_succ]
      · rw [List.append_assoc, show m + 1 + t.length = m + (t.length + 1) by omega] at s1
        exact K R3 z s1 (sm_tr q2 s2)
end IDS
