/-! the reference: signs, atoms, cut -/
def isSg (ty : Bool) (c : Int32) : Bool := decide (c = 60 ∨ c = 62 ∨ c = 58 ∨ c = 59 ∨ c = 64 ∨ c = 44 ∨ c = 41 ∨ c = 93 ∨ c = 92) || (bif ty then decide (c = 61 ∨ c = 47) else decide (c = 46))
def isAt (ty : Bool) (c : Int32) : Bool := decide (sp_nothing c = 0 ∧ ¬ c = 40 ∧ ¬ c = 34 ∧ ¬ c = 91 ∧ isSg ty c = false)
/-- the words of a value -/
def wcut (ty : Bool) : Nat → List Int32 → Wds
  | 0, _ => []
  | _ + 1, [] => []
  | n + 1, c :: t =>
    if ¬ sp_nothing c = 0 then wcut ty n t
    else if c = 40 then (0, 0, (encl true 41 1 t).1) :: wcut ty n (encl true 41 1 t).2
    else if c = 34 then (1, 0, (encl false 34 1 t).1) :: wcut ty n (encl false 34 1 t).2
    else if c = 91 then (2, 0, (encl false 93 1 t).1) :: wcut ty n (encl false 93 1 t).2
    else if isSg ty c = true then (3, c, [c]) :: wcut ty n t
    else (4, 0, (c :: t).take (cnt (isAt ty) (c :: t))) :: wcut ty n ((c :: t).drop (cnt (isAt ty) (c :: t)))
theorem encl_len (isC : Bool) (close : Int32) : ∀ (n d : Nat) (l : List Int32), l.length ≤ n → (encl isC close d l).1.length + (encl isC close d l).2.length ≤ l.length
  | n, d, [], _ => by simp [encl]
  | 0, d, c :: t, h => by simp at h
  | n + 1, d, c :: t, h => by
    simp only [List.length_cons] at h
    by_cases h92 : c = 92
    · subst h92
      cases t with
      | nil => rw [encl_e]; simp
      | cons y u =>
        rw [encl_b]
        simp only [List.length_cons] at h ⊢
        have := encl_len isC close n d u (by omega)
        omega
    · rw [encl_o h92]
      split
      · simp
      · have := encl_len isC close n (nd isC close d c) t (by omega)
        simp only [List.length_cons]
        omega
theorem encl_suf (isC : Bool) (close : Int32) : ∀ (n d : Nat) (l : List Int32), l.length ≤ n → ∃ k, (encl isC close d l).2 = l.drop k
  | n, d, [], _ => ⟨0, by simp [encl]⟩
  | 0, d, c :: t, h => by simp at h
  | n + 1, d, c :: t, h => by
    simp only [List.length_cons] at h
    by_cases h92 : c = 92
    · subst h92
      cases t with
      | nil => exact ⟨1, by rw [encl_e]; rfl⟩
      | cons y u =>
        simp only [List.length_cons] at h
        obtain ⟨k, hk⟩ := encl_suf isC close n d u (by omega)
        exact ⟨k + 2, by rw [encl_b, hk]; rfl⟩
    · rw [encl_o h92]
      split
      · exact ⟨1, rfl⟩
      · obtain ⟨k, hk⟩ := encl_suf isC close n (nd isC close d c) t (by omega)
        exact ⟨k + 1, by rw [hk]; rfl⟩
section CUT
variable {G : gl_G} {cI cZ : ClassId} {h0 : hp_T} {M : Nat} {I : Nat → Int32} {R : Nat → Nat → Int32} {W : Wds}
theorem c_Model_isSign {ty : Bool} (hI : I 41 = bI ty) (c : Int32) : ct_E G m_Model_isSign [.ref M, .int c] (mo_ov cI cZ h0 M I R) (cv (.int (bI (isSg ty c))) (mo_ov cI cZ h0 M I R)) := by
  refine ct_of (ws' := tb_all) rfl rfl (Nat.le_of_ble_eq_true rfl) ?_
  have yes : (c = 60 ∨ c = 62 ∨ c = 58 ∨ c = 59 ∨ c = 64 ∨ c = 44 ∨ c = 41 ∨ c = 93 ∨ c = 92) → ev_E G m_Model_isSign 54 [(0, .ref M), (1, .int c)] [] (mo_ov cI cZ h0 M I R) (cv (.int (bI (isSg ty c))) (mo_ov cI cZ h0 M I R)) := by
    intro h
    refine ev_iconst (v := 1) d_Model_isSign_54 (by decide) ?_
    refine ev_zret d_Model_isSign_55 rfl rfl ?_
    have e : isSg ty c = true := by unfold isSg; rw [decide_eq_true h]; rfl
    rw [e]
    exact ⟨rfl, rfl⟩
  refine ev_iload_n d_Model_isSign_0 rfl rfl ?_
  refine ev_bipush (v := 60) d_Model_isSign_1 (by decide) ?_
  refine ev_icmp_eq (tgt := 54) d_Model_isSign_3 (by decide) (fun c_3 => ?_) (fun c_3 => ?_)
  · exact yes (by simp [c_3])
  refine ev_iload_n d_Model_isSign_6 rfl rfl ?_
  refine ev_bipush (v := 62) d_Model_isSign_7 (by decide) ?_
  refine ev_icmp_eq (tgt := 54) d_Model_isSign_9 (by decide) (fun c_9 => ?_) (fun c_9 => ?_)
  · exact yes (by simp [c_9])
  refine ev_iload_n d_Model_isSign_12 rfl rfl ?_
  refine ev_bipush (v := 58) d_Model_isSign_13 (by decide) ?_
  refine ev_icmp_eq (tgt := 54) d_Model_isSign_15 (by decide) (fun c_15 => ?_) (fun c_15 => ?_)
  · exact yes (by simp [c_15])
  refine ev_iload_n d_Model_isSign_18 rfl rfl ?_
  refine ev_bipush (v := 59) d_Model_isSign_19 (by decide) ?_
  refine ev_icmp_eq (tgt := 54) d_Model_isSign_21 (by decide) (fun c_21 => ?_) (fun c_21 => ?_)
  · exact yes (by simp [c_21])
  refine ev_iload_n d_Model_isSign_24 rfl rfl ?_
  refine ev_bipush (v := 64) d_Model_isSign_25 (by decide) ?_
  refine ev_icmp_eq (tgt := 54) d_Model_isSign_27 (by decide) (fun c_27 => ?_) (fun c_27 => ?_)
  · exact yes (by simp [c_27])
  refine ev_iload_n d_Model_isSign_30 rfl rfl ?_
  refine ev_bipush (v := 44) d_Model_isSign_31 (by decide) ?_
  refine ev_icmp_eq (tgt := 54) d_Model_isSign_33 (by decide) (fun c_33 => ?_) (fun c_33 => ?_)
  · exact yes (by simp [c_33])
  refine ev_iload_n d_Model_isSign_36 rfl rfl ?_
  refine ev_bipush (v := 41) d_Model_isSign_37 (by decide) ?_
  refine ev_icmp_eq (tgt := 54) d_Model_isSign_39 (by decide) (fun c_39 => ?_) (fun c_39 => ?_)
  · exact yes (by simp [c_39])
  refine ev_iload_n d_Model_isSign_42 rfl rfl ?_
  refine ev_bipush (v := 93) d_Model_isSign_43 (by decide) ?_
  refine ev_icmp_eq (tgt := 54) d_Model_isSign_45 (by decide) (fun c_45 => ?_) (fun c_45 => ?_)
  · exact yes (by simp [c_45])
  refine ev_iload_n d_Model_isSign_48 rfl rfl ?_
  refine ev_bipush (v := 92) d_Model_isSign_49 (by decide) ?_
  refine ev_icmp_ne (tgt := 56) d_Model_isSign_51 (by decide) (fun c_51 => ?_) (fun c_51 => ?_)
  · have e0 : decide (c = 60 ∨ c = 62 ∨ c = 58 ∨ c = 59 ∨ c = 64 ∨ c = 44 ∨ c = 41 ∨ c = 93 ∨ c = 92) = false := decide_eq_false (by
      rintro (h | h | h | h | h | h | h | h | h)
      · exact c_3 h
      · exact c_9 h
      · exact c_15 h
      · exact c_21 h
      · exact c_27 h
      · exact c_33 h
      · exact c_39 h
      · exact c_45 h
      · exact c_51 h)
    have e1 : isSg ty c = (bif ty then decide (c = 61 ∨ c = 47) else decide (c = 46)) := by unfold isSg; rw [e0]; rfl
    refine ev_aload_n d_Model_isSign_56 rfl rfl ?_
    refine mo_get (fa_Model_165 rfl rfl) d_Model_isSign_57 rfl ?_
    rw [hI]
    refine ev_if_eq (tgt := 83) d_Model_isSign_60 (by decide) (fun c_60 => ?_) (fun c_60 => ?_)
    · have et : ty = false := by
        cases ty with
        | false => rfl
        | true => exact absurd c_60 (by decide)
      rw [e1, et]
      refine ev_iload_n d_Model_isSign_83 rfl rfl ?_
      refine ev_bipush (v := 46) d_Model_isSign_84 (by decide) ?_
      refine ev_icmp_ne (tgt := 93) d_Model_isSign_86 (by decide) (fun c_86 => ?_) (fun c_86 => ?_)
      · refine ev_iconst (v := 0) d_Model_isSign_93 (by decide) ?_
        refine ev_zret d_Model_isSign_94 rfl rfl ?_
        rw [show (bif false then decide (c = 61 ∨ c = 47) else decide (c = 46)) = false from decide_eq_false c_86]
        exact ⟨rfl, rfl⟩
      · refine ev_iconst (v := 1) d_Model_isSign_89 (by decide) ?_
        refine ev_goto (tgt := 94) d_Model_isSign_90 (by decide) ?_
        refine ev_zret d_Model_isSign_94 rfl rfl ?_
        rw [show (bif false then decide (c = 61 ∨ c = 47) else decide (c = 46)) = true from decide_eq_true c_86]
        exact ⟨rfl, rfl⟩
    · have et : ty = true := by
        cases ty with
        | true => rfl
        | false => exact absurd rfl c_60
      rw [e1, et]
      refine ev_iload_n d_Model_isSign_63 rfl rfl ?_
      refine ev_bipush (v := 61) d_Model_isSign_64 (by decide) ?_
      refine ev_icmp_eq (tgt := 75) d_Model_isSign_66 (by decide) (fun c_66 => ?_) (fun c_66 => ?_)
      · refine ev_iconst (v := 1) d_Model_isSign_75 (by decide) ?_
        refine ev_goto (tgt := 94) d_Model_isSign_76 (by decide) ?_
        refine ev_zret d_Model_isSign_94 rfl rfl ?_
        rw [show (bif true then decide (c = 61 ∨ c = 47) else decide (c = 46)) = true from decide_eq_true (Or.inl c_66)]
        exact ⟨rfl, rfl⟩
      · refine ev_iload_n d_Model_isSign_69 rfl rfl ?_
        refine ev_bipush (v := 47) d_Model_isSign_70 (by decide) ?_
        refine ev_icmp_ne (tgt := 79) d_Model_isSign_72 (by decide) (fun c_72 => ?_) (fun c_72 => ?_)
        · refine ev_iconst (v := 0) d_Model_isSign_79 (by decide) ?_
          refine ev_goto (tgt := 94) d_Model_isSign_80 (by decide) ?_
          refine ev_zret d_Model_isSign_94 rfl rfl ?_
          rw [show (bif true then decide (c = 61 ∨ c = 47) else decide (c = 46)) = false from decide_eq_false (fun z => z.elim c_66 c_72)]
          exact ⟨rfl, rfl⟩
        · refine ev_iconst (v := 1) d_Model_isSign_75 (by decide) ?_
          refine ev_goto (tgt := 94) d_Model_isSign_76 (by decide) ?_
          refine ev_zret d_Model_isSign_94 rfl rfl ?_
          rw [show (bif true then decide (c = 61 ∨ c = 47) else decide (c = 46)) = true from decide_eq_true (Or.inr c_72)]
          exact ⟨rfl, rfl⟩
  · exact yes (by simp [c_51])
def lookV : List Int32 → Int32
  | [] => -1
  | c :: _ => c
theorem c_Model_look (hT : (gl_t G)[0]? = some (cI, .int)) {e : Nat} {l : List Int32} (he : e ≤ 1501) (hle : l.length ≤ e) (hh : hol (R 7) (e - l.length) l) (hp : I 39 = nI (e - l.length)) (hv : I 40 = nI e) : ct_E G m_Model_look [.ref M] (mo_ov cI cZ h0 M I R) (cv (.int (lookV l)) (mo_ov cI cZ h0 M I R)) := by
  refine ct_of (ws' := tb_all) rfl rfl (Nat.le_of_ble_eq_true rfl) ?_
  refine ev_aload_n d_Model_look_0 rfl rfl ?_
  refine mo_get (fa_Model_143 rfl rfl) d_Model_look_1 rfl ?_
  refine ev_aload_n d_Model_look_4 rfl rfl ?_
  refine mo_get (fa_Model_146 rfl rfl) d_Model_look_5 rfl ?_
  rw [hp, hv]
  refine ev_icmp_ge (tgt := 23) d_Model_look_8 (by decide) (fun c_8 => ?_) (fun c_8 => ?_)
  · have hl0 : l = [] := List.length_eq_zero_iff.mp (by have := (nI_leI (by omega) (by omega)).mp c_8; omega)
    subst hl0
    refine ev_iconst (v := (-1)) d_Model_look_23 (by decide) ?_
    refine ev_iret d_Model_look_24 rfl ?_
    exact ⟨rfl, rfl⟩
  · cases l with
    | nil => exact absurd (nI_le (by simp) (by simp; omega)) c_8
    | cons c t =>
      simp only [List.length_cons] at hle hh hp
      have hin7 : vp_in (I 39) (mo_len 7) := by rw [hp]; exact vp_in_nI (show _ < 1600 by omega) (by decide)
      refine ev_aload_n d_Model_look_11 rfl rfl ?_
      refine mo_get (fa_Model_28 rfl rfl) d_Model_look_12 rfl ?_
      refine ev_aload_n d_Model_look_15 rfl rfl ?_
      refine mo_get (fa_Model_143 rfl rfl) d_Model_look_16 rfl ?_
      refine mo_ald hT d_Model_look_19 (by decide) hin7 ?_
      refine ev_goto (tgt := 24) d_Model_look_20 (by decide) ?_
      refine ev_iret d_Model_look_24 rfl ?_
      rw [hp, nI_clamp (by omega), (hol_cons hh).1]
      exact ⟨rfl, rfl⟩
theorem l_Model_ta (hT : (gl_t G)[0]? = some (cI, .int)) {I0 : Nat → Int32} {R0 : Nat → Nat → Int32} {ty : Bool} {e : Nat} (he : e ≤ 1501) (hl : W.length < 1501) : ∀ (l : List Int32) (cur : List Int32) (I : Nat → Int32) (R : Nat → Nat → Int32), l.length ≤ e → wIn W 4 0 cur I R → (wB W).length + cur.length + l.length ≤ 1590 → hol (R 7) (e - l.length) l → I 39 = nI (e - l.length) → I 40 = nI e → I 41 = bI ty → sm [12, 18, 39] I0 I → sm [8, 9, 10, 11, 12] R0 R →
    ev_E G m_Model_takeAtom 11 [(0, .ref M), (1, .int (lookV l))] [] (mo_ov cI cZ h0 M I R) (cn (teP cI cZ h0 M I0 R0 W 4 (cur ++ l.take (cnt (isAt ty) l)) (l.drop (cnt (isAt ty) l)) e)) := by
  intro l
  induction l with
  | nil =>
    intro cur I R hle hW hb hh hp hv hty hI hR
    refine ev_iload_n d_Model_takeAtom_11 rfl rfl ?_
    refine ev_iconst (v := (-1)) d_Model_takeAtom_12 (by decide) ?_
    refine ev_icmp_eq (tgt := 72) d_Model_takeAtom_13 (by decide) (fun c_13 => ?_) (fun c_13 => ?_)
    · refine ev_aload_n d_Model_takeAtom_72 rfl rfl ?_
      refine mo_Vn [] [] ca_Model_takeAtom_162 d_Model_takeAtom_73 rfl (Nat.le_of_ble_eq_true rfl) (c_Model_endWord hT hW hl) (fun h1 z => ?_)
      obtain ⟨I2, R2, rfl, q1, q2, q3, q4⟩ := z
      refine ev_vret d_Model_takeAtom_76 rfl ?_
      rw [show cur ++ ([] : List Int32).take (cnt (isAt ty) []) = cur by simp]
      exact ⟨rfl, I2, R2, rfl, q1, by rw [q3, hp]; simp, sm_tr hI q2, sm_tr hR q4⟩
    · exact absurd rfl c_13
  | cons c t ih =>
    intro cur I R hle hW hb hh hp hv hty hI hR
    simp only [List.length_cons] at hle hb hh hp
    obtain ⟨hx, ht⟩ := hol_cons hh
    rw [show e - (t.length + 1) + 1 = e - t.length by omega] at ht
    have stop : isAt ty c = false → ev_E G m_Model_takeAtom 72 [(0, .ref M), (1, .int c)] [] (mo_ov cI cZ h0 M I R) (cn (teP cI cZ h0 M I0 R0 W 4 (cur ++ (c :: t).take (cnt (isAt ty) (c :: t))) ((c :: t).drop (cnt (isAt ty) (c :: t))) e)) := by
      intro hs
      rw [cnt_no hs]
      refine ev_aload_n d_Model_takeAtom_72 rfl rfl ?_
      refine mo_Vn [] [] ca_Model_takeAtom_162 d_Model_takeAtom_73 rfl (Nat.le_of_ble_eq_true rfl) (c_Model_endWord hT hW hl) (fun h1 z => ?_)
      obtain ⟨I2, R2, rfl, q1, q2, q3, q4⟩ := z
      refine ev_vret d_Model_takeAtom_76 rfl ?_
      rw [List.take_zero, List.append_nil, List.drop_zero]
      exact ⟨rfl, I2, R2, rfl, q1, by rw [q3, hp]; rfl, sm_tr hI q2, sm_tr hR q4⟩
    show ev_E _ _ _ [(0, .ref M), (1, .int c)] _ _ _
    refine ev_iload_n d_Model_takeAtom_11 rfl rfl ?_
    refine ev_iconst (v := (-1)) d_Model_takeAtom_12 (by decide) ?_
    refine ev_icmp_eq (tgt := 72) d_Model_takeAtom_13 (by decide) (fun c_13 => ?_) (fun c_13 => ?_)
    · exact stop (decide_eq_false (fun z => by rw [c_13] at z; exact absurd z.1 (by decide)))
    refine ev_iload_n d_Model_takeAtom_16 rfl rfl ?_
    refine ev_Sv [.int c] [] ca_Model_takeAtom_169 d_Model_takeAtom_17 rfl (Nat.le_of_ble_eq_true rfl) (c_Model_isNothing c) ?_
    refine ev_if_ne (tgt := 72) d_Model_takeAtom_20 (by decide) (fun c_20 => ?_) (fun c_20 => ?_)
    · exact stop (decide_eq_false (fun z => c_20 z.1))
    refine ev_iload_n d_Model_takeAtom_23 rfl rfl ?_
    refine ev_bipush (v := 40) d_Model_takeAtom_24 (by decide) ?_
    refine ev_icmp_eq (tgt := 72) d_Model_takeAtom_26 (by decide) (fun c_26 => ?_) (fun c_26 => ?_)
    · exact stop (decide_eq_false (fun z => z.2.1 c_26))
    refine ev_iload_n d_Model_takeAtom_29 rfl rfl ?_
    refine ev_bipush (v := 34) d_Model_takeAtom_30 (by decide) ?_
    refine ev_icmp_eq (tgt := 72) d_Model_takeAtom_32 (by decide) (fun c_32 => ?_) (fun c_32 => ?_)
    · exact stop (decide_eq_false (fun z => z.2.2.1 c_32))
    refine ev_iload_n d_Model_takeAtom_35 rfl rfl ?_
    refine ev_bipush (v := 91) d_Model_takeAtom_36 (by decide) ?_
    refine ev_icmp_eq (tgt := 72) d_Model_takeAtom_38 (by decide) (fun c_38 => ?_) (fun c_38 => ?_)
    · exact stop (decide_eq_false (fun z => z.2.2.2.1 c_38))
    refine ev_aload_n d_Model_takeAtom_41 rfl rfl ?_
    refine ev_iload_n d_Model_takeAtom_42 rfl rfl ?_
    refine mo_Vv [.int c] [] ca_Model_takeAtom_175 d_Model_takeAtom_43 rfl (Nat.le_of_ble_eq_true rfl) (c_Model_isSign hty c) ?_
    refine ev_if_ne (tgt := 72) d_Model_takeAtom_46 (by decide) (fun c_46 => ?_) (fun c_46 => ?_)
    · exact stop (decide_eq_false (fun z => c_46 (by rw [z.2.2.2.2]; rfl)))
    have hsg : isSg ty c = false := by
      cases hq : isSg ty c with
      | false => rfl
      | true => rw [hq] at c_46; exact absurd c_46 (by decide)
    have hat : isAt ty c = true := decide_eq_true ⟨c_20, c_26, c_32, c_38, hsg⟩
    refine ev_aload_n d_Model_takeAtom_49 rfl rfl ?_
    refine ev_iload_n d_Model_takeAtom_50 rfl rfl ?_
    refine mo_Vn [.int c] [] ca_Model_takeAtom_158 d_Model_takeAtom_51 rfl (Nat.le_of_ble_eq_true rfl) (c_Model_put hT hW (by omega) c) (fun h1 z => ?_)
    obtain ⟨I2, R2, rfl, q1, q2, q3, q4⟩ := z
    refine ev_aload_n d_Model_takeAtom_54 rfl rfl ?_
    refine ev_dup d_Model_takeAtom_55 rfl ?_
    refine mo_get (fa_Model_143 rfl rfl) d_Model_takeAtom_56 rfl ?_
    refine ev_iconst (v := 1) d_Model_takeAtom_59 (by decide) ?_
    refine ev_iadd d_Model_takeAtom_60 ?_
    refine mo_put (fp_Model_143 rfl rfl) d_Model_takeAtom_61 (Nat.le_of_ble_eq_true rfl) rfl rfl rfl ?_
    refine ev_aload_n d_Model_takeAtom_64 rfl rfl ?_
    rw [show I2 39 + 1 = nI (e - t.length) by rw [q3, hp, ← nI_succ]; congr 1; omega]
    have hW3 : wIn W 4 0 (cur ++ [c]) (upd I2 39 (nI (e - t.length))) R2 := wIn_I q1 rfl rfl
    have h40 : (upd I2 39 (nI (e - t.length))) 40 = nI e := by show I2 40 = _; rw [q2 40 (by decide)]; exact hv
    have h41 : (upd I2 39 (nI (e - t.length))) 41 = bI ty := by show I2 41 = _; rw [q2 41 (by decide)]; exact hty
    have h7 : hol (R2 7) (e - t.length) t := by rw [q4 7 (by decide)]; exact ht
    refine mo_Vv [] [] ca_Model_takeAtom_181 d_Model_takeAtom_65 rfl (Nat.le_of_ble_eq_true rfl) (c_Model_look hT he (by omega) h7 rfl h40) ?_
    refine ev_istore_n d_Model_takeAtom_68 rfl (by decide) ?_
    refine ev_goto (tgt := 11) d_Model_takeAtom_69 (by decide) ?_
    refine ev_as [(0, .ref M), (1, .int (lookV t))] ⟨rfl, rfl, trivial⟩ ?_
    have k9 := ih (cur ++ [c]) (upd I2 39 (nI (e - t.length))) R2 (by omega) hW3 (by rw [List.length_append, List.length_singleton]; omega) h7 rfl h40 h41 (sm_tr (sm_tr hI q2) (sm_upd (by decide))) (sm_tr hR q4)
    rw [cnt_yes hat, List.take_succ_cons, List.drop_succ_cons]
    rw [List.append_assoc] at k9
    exact k9
theorem c_Model_takeAtom (hT : (gl_t G)[0]? = some (cI, .int)) {ty : Bool} {e : Nat} (he : e ≤ 1501) (hW : wOk W I R) (hl : W.length < 1501) {l : List Int32} (hle : l.length ≤ e) (hb : (wB W).length + l.length ≤ 1590) (hh : hol (R 7) (e - l.length) l) (hp : I 39 = nI (e - l.length)) (hv : I 40 = nI e) (hty : I 41 = bI ty) : ct_E G m_Model_takeAtom [.ref M] (mo_ov cI cZ h0 M I R) (cn (teP cI cZ h0 M I R W 4 (l.take (cnt (isAt ty) l)) (l.drop (cnt (isAt ty) l)) e)) := by
  refine ct_of (ws' := tb_all) rfl rfl (Nat.le_of_ble_eq_true rfl) ?_
  refine ev_aload_n d_Model_takeAtom_0 rfl rfl ?_
  refine ev_iconst (v := 4) d_Model_takeAtom_1 (by decide) ?_
  refine ev_iconst (v := 0) d_Model_takeAtom_2 (by decide) ?_
  refine mo_Vn [.int 4, .int 0] [] ca_Model_takeAtom_155 d_Model_takeAtom_3 rfl (Nat.le_of_ble_eq_true rfl) (c_Model_beginWord hT hW hl 4 0) (fun h1 z => ?_)
  obtain ⟨I2, R2, rfl, q1, rfl, q4⟩ := z
  have h7 : hol (R2 7) (e - l.length) l := by rw [q4 7 (by decide)]; exact hh
  refine ev_aload_n d_Model_takeAtom_6 rfl rfl ?_
  refine mo_Vv [] [] ca_Model_takeAtom_181 d_Model_takeAtom_7 rfl (Nat.le_of_ble_eq_true rfl) (c_Model_look hT he hle h7 hp hv) ?_
  refine ev_istore_n d_Model_takeAtom_10 rfl (by decide) ?_
  refine ev_as [(0, .ref M), (1, .int (lookV l))] ⟨rfl, rfl, trivial⟩ ?_
  exact l_Model_ta hT he hl l [] I2 R2 hle q1 (by rw [List.length_nil]; omega) h7 hp hv hty (sm_rf _ _) q4
end CUT
