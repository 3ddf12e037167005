/-! the reference: parameters looked up -/
/-- name, PIECE, CODED, value -/
abbrev Prm : Type := List Int32 × Int32 × Bool × List Int32
def prAt (R : Nat → Nat → Int32) (top i : Nat) (q : Prm) : Prop := ∃ a c : Nat, R 19 i = nI a ∧ R 20 i = nI (a + q.1.length) ∧ R 21 i = q.2.1 ∧ R 22 i = bI q.2.2.1 ∧ R 23 i = nI c ∧ R 24 i = nI (c + q.2.2.2.length) ∧ a + q.1.length ≤ top ∧ c + q.2.2.2.length ≤ top ∧ hol (R 25) a q.1 ∧ hol (R 25) c q.2.2.2
def sumV : List Prm → Nat
  | [] => 0
  | q :: t => q.2.2.2.length + sumV t
def pmOk (Q : List Prm) (I : Nat → Int32) (R : Nat → Nat → Int32) : Prop := I 27 = nI Q.length ∧ Q.length ≤ 800 ∧ sumV Q ≤ 1600 ∧ ∀ (i : Nat) (q : Prm), Q[i]? = some q → prAt R 1600 i q
/-- the first of that name and PIECE, from number i on -/
def pmF (T : List Int32) (pc : Int32) : List Prm → Nat → Int32
  | [], _ => -1
  | q :: t, i => if q.2.1 = pc ∧ eqS q.1 T = true then nI i else pmF T pc t (i + 1)
def sp_hex (c : Int32) : Int32 := if ¬ sp_digit c = 0 then c - 48 else if ¬ c < 97 ∧ ¬ 102 < c then c - 97 + 10 else if ¬ c < 65 ∧ ¬ 70 < c then c - 65 + 10 else -1
section PRM
variable {G : gl_G} {cI cZ : ClassId} {h0 : hp_T} {M : Nat} {I : Nat → Int32} {R : Nat → Nat → Int32} {Q : List Prm}
theorem c_Model_sixteenth {h : hp_T} (c : Int32) : ct_E G m_Model_sixteenth [.int c] h (cv (.int (sp_hex c)) h) := by
  refine ct_of (ws' := tb_all) rfl rfl (Nat.le_of_ble_eq_true rfl) ?_
  refine ev_iload_n d_Model_sixteenth_0 rfl rfl ?_
  refine ev_Sv [.int c] [] ca_Model_sixteenth_271 d_Model_sixteenth_1 rfl (Nat.le_of_ble_eq_true rfl) (c_Model_isDigit c) ?_
  refine ev_if_eq (tgt := 14) d_Model_sixteenth_4 (by decide) (fun c_4 => ?_) (fun c_4 => ?_)
  · refine ev_iload_n d_Model_sixteenth_14 rfl rfl ?_
    refine ev_bipush (v := 97) d_Model_sixteenth_15 (by decide) ?_
    refine ev_icmp_lt (tgt := 36) d_Model_sixteenth_17 (by decide) (fun c_17 => ?_) (fun c_17 => ?_)
    · refine ev_iload_n d_Model_sixteenth_36 rfl rfl ?_
      refine ev_bipush (v := 65) d_Model_sixteenth_37 (by decide) ?_
      refine ev_icmp_lt (tgt := 58) d_Model_sixteenth_39 (by decide) (fun c_39 => ?_) (fun c_39 => ?_)
      · refine ev_iconst (v := (-1)) d_Model_sixteenth_58 (by decide) ?_
        refine ev_iret d_Model_sixteenth_59 rfl ?_
        rw [sp_hex, if_neg (fun z => z c_4), if_neg (fun z => z.1 c_17), if_neg (fun z => z.1 c_39)]
        exact ⟨rfl, rfl⟩
      · refine ev_iload_n d_Model_sixteenth_42 rfl rfl ?_
        refine ev_bipush (v := 70) d_Model_sixteenth_43 (by decide) ?_
        refine ev_icmp_gt (tgt := 58) d_Model_sixteenth_45 (by decide) (fun c_45 => ?_) (fun c_45 => ?_)
        · refine ev_iconst (v := (-1)) d_Model_sixteenth_58 (by decide) ?_
          refine ev_iret d_Model_sixteenth_59 rfl ?_
          rw [sp_hex, if_neg (fun z => z c_4), if_neg (fun z => z.1 c_17), if_neg (fun z => z.2 c_45)]
          exact ⟨rfl, rfl⟩
        · refine ev_iload_n d_Model_sixteenth_48 rfl rfl ?_
          refine ev_bipush (v := 65) d_Model_sixteenth_49 (by decide) ?_
          refine ev_isub d_Model_sixteenth_51 ?_
          refine ev_bipush (v := 10) d_Model_sixteenth_52 (by decide) ?_
          refine ev_iadd d_Model_sixteenth_54 ?_
          refine ev_goto (tgt := 59) d_Model_sixteenth_55 (by decide) ?_
          refine ev_iret d_Model_sixteenth_59 rfl ?_
          rw [sp_hex, if_neg (fun z => z c_4), if_neg (fun z => z.1 c_17), if_pos ⟨c_39, c_45⟩]
          exact ⟨rfl, rfl⟩
    · refine ev_iload_n d_Model_sixteenth_20 rfl rfl ?_
      refine ev_bipush (v := 102) d_Model_sixteenth_21 (by decide) ?_
      refine ev_icmp_gt (tgt := 36) d_Model_sixteenth_23 (by decide) (fun c_23 => ?_) (fun c_23 => ?_)
      · refine ev_iload_n d_Model_sixteenth_36 rfl rfl ?_
        refine ev_bipush (v := 65) d_Model_sixteenth_37 (by decide) ?_
        refine ev_icmp_lt (tgt := 58) d_Model_sixteenth_39 (by decide) (fun c_39 => ?_) (fun c_39 => ?_)
        · refine ev_iconst (v := (-1)) d_Model_sixteenth_58 (by decide) ?_
          refine ev_iret d_Model_sixteenth_59 rfl ?_
          rw [sp_hex, if_neg (fun z => z c_4), if_neg (fun z => z.2 c_23), if_neg (fun z => z.1 c_39)]
          exact ⟨rfl, rfl⟩
        · refine ev_iload_n d_Model_sixteenth_42 rfl rfl ?_
          refine ev_bipush (v := 70) d_Model_sixteenth_43 (by decide) ?_
          refine ev_icmp_gt (tgt := 58) d_Model_sixteenth_45 (by decide) (fun c_45 => ?_) (fun c_45 => ?_)
          · refine ev_iconst (v := (-1)) d_Model_sixteenth_58 (by decide) ?_
            refine ev_iret d_Model_sixteenth_59 rfl ?_
            rw [sp_hex, if_neg (fun z => z c_4), if_neg (fun z => z.2 c_23), if_neg (fun z => z.2 c_45)]
            exact ⟨rfl, rfl⟩
          · refine ev_iload_n d_Model_sixteenth_48 rfl rfl ?_
            refine ev_bipush (v := 65) d_Model_sixteenth_49 (by decide) ?_
            refine ev_isub d_Model_sixteenth_51 ?_
            refine ev_bipush (v := 10) d_Model_sixteenth_52 (by decide) ?_
            refine ev_iadd d_Model_sixteenth_54 ?_
            refine ev_goto (tgt := 59) d_Model_sixteenth_55 (by decide) ?_
            refine ev_iret d_Model_sixteenth_59 rfl ?_
            rw [sp_hex, if_neg (fun z => z c_4), if_neg (fun z => z.2 c_23), if_pos ⟨c_39, c_45⟩]
            exact ⟨rfl, rfl⟩
      · refine ev_iload_n d_Model_sixteenth_26 rfl rfl ?_
        refine ev_bipush (v := 97) d_Model_sixteenth_27 (by decide) ?_
        refine ev_isub d_Model_sixteenth_29 ?_
        refine ev_bipush (v := 10) d_Model_sixteenth_30 (by decide) ?_
        refine ev_iadd d_Model_sixteenth_32 ?_
        refine ev_goto (tgt := 59) d_Model_sixteenth_33 (by decide) ?_
        refine ev_iret d_Model_sixteenth_59 rfl ?_
        rw [sp_hex, if_neg (fun z => z c_4), if_pos ⟨c_17, c_23⟩]
        exact ⟨rfl, rfl⟩
  · refine ev_iload_n d_Model_sixteenth_7 rfl rfl ?_
    refine ev_bipush (v := 48) d_Model_sixteenth_8 (by decide) ?_
    refine ev_isub d_Model_sixteenth_10 ?_
    refine ev_goto (tgt := 59) d_Model_sixteenth_11 (by decide) ?_
    refine ev_iret d_Model_sixteenth_59 rfl ?_
    rw [sp_hex, if_pos c_4]
    exact ⟨rfl, rfl⟩
theorem l_Model_isNamed (hT : (gl_t G)[0]? = some (cI, .int)) {i n a : Nat} (hi : i < 800) (hn : n ≤ 1500) (ha : R 19 i = nI a) (hna : a + n ≤ 1600) : ∀ (x t : List Int32) (k : Nat), x.length = t.length → hol (R 25) (a + k) x → hol (R 2) k t → k + t.length = n →
    ev_E G m_Model_isNamed 21 [(0, .ref M), (1, .int (nI i)), (2, .int (nI n)), (3, .int (nI k))] [] (mo_ov cI cZ h0 M I R) (cv (.int (bI (eqS x t))) (mo_ov cI cZ h0 M I R)) := by
  intro x
  induction x with
  | nil =>
    intro t k hl h5 h2 hk
    have ht : t = [] := List.length_eq_zero_iff.mp hl.symm
    subst ht
    refine ev_iload_n d_Model_isNamed_21 rfl rfl ?_
    refine ev_iload_n d_Model_isNamed_22 rfl rfl ?_
    refine ev_icmp_ge (tgt := 62) d_Model_isNamed_23 (by decide) (fun c_23 => ?_) (fun c_23 => ?_)
    · refine ev_iconst (v := 1) d_Model_isNamed_62 (by decide) ?_
      refine ev_zret d_Model_isNamed_63 rfl rfl ?_
      exact ⟨rfl, rfl⟩
    · exact absurd (nI_le (a := n) (b := k) (by simp at hk; omega) (by simp at hk; omega)) c_23
  | cons c x ih =>
    intro t k hl h5 h2 hk
    cases t with
    | nil => simp at hl
    | cons d t =>
      simp only [List.length_cons] at hl hk
      obtain ⟨hx, hx2⟩ := hol_cons h5
      obtain ⟨hy, hy2⟩ := hol_cons h2
      have hin19 : vp_in (nI i) (mo_len 19) := vp_in_nI (show i < 800 by omega) (by decide)
      have hin2 : vp_in (nI k) (mo_len 2) := vp_in_nI (show k < 1500 by omega) (by decide)
      have hin25 : vp_in (nI (a + k)) (mo_len 25) := vp_in_nI (show a + k < 1600 by omega) (by decide)
      refine ev_iload_n d_Model_isNamed_21 rfl rfl ?_
      refine ev_iload_n d_Model_isNamed_22 rfl rfl ?_
      refine ev_icmp_ge (tgt := 62) d_Model_isNamed_23 (by decide) (fun c_23 => ?_) (fun c_23 => ?_)
      · exact absurd c_23 (nI_ge (a := k) (b := n) (by omega) (by omega))
      · refine ev_aload_n d_Model_isNamed_26 rfl rfl ?_
        refine mo_get (fa_Model_83 rfl rfl) d_Model_isNamed_27 rfl ?_
        refine ev_aload_n d_Model_isNamed_30 rfl rfl ?_
        refine mo_get (fa_Model_64 rfl rfl) d_Model_isNamed_31 rfl ?_
        refine ev_iload_n d_Model_isNamed_34 rfl rfl ?_
        refine mo_ald hT d_Model_isNamed_35 (by decide) hin19 ?_
        refine ev_iload_n d_Model_isNamed_36 rfl rfl ?_
        rw [nI_clamp (n := i) (by omega), ha]
        refine ev_iadd d_Model_isNamed_37 ?_
        rw [nI_add]
        refine mo_ald hT d_Model_isNamed_38 (by decide) hin25 ?_
        rw [nI_clamp (n := a + k) (by omega), hx]
        refine ev_Sv [.int c] [] ca_Model_isNamed_133 d_Model_isNamed_39 rfl (Nat.le_of_ble_eq_true rfl) (c_Model_small c) ?_
        refine ev_aload_n d_Model_isNamed_42 rfl rfl ?_
        refine mo_get (fa_Model_13 rfl rfl) d_Model_isNamed_43 rfl ?_
        refine ev_iload_n d_Model_isNamed_46 rfl rfl ?_
        refine mo_ald hT d_Model_isNamed_47 (by decide) hin2 ?_
        rw [nI_clamp (n := k) (by omega), hy]
        refine ev_Sv [.int d] [.int (sp_small c)] ca_Model_isNamed_133 d_Model_isNamed_48 rfl (Nat.le_of_ble_eq_true rfl) (c_Model_small d) ?_
        refine ev_icmp_eq (tgt := 56) d_Model_isNamed_51 (by decide) (fun c_51 => ?_) (fun c_51 => ?_)
        · refine ev_iinc d_Model_isNamed_56 rfl (by decide) ?_
          refine ev_goto (tgt := 21) d_Model_isNamed_59 (by decide) ?_
          rw [show eqS (c :: x) (d :: t) = eqS x t by show (decide _ && _) = _; rw [decide_eq_true c_51]; rfl]
          refine ev_as [(0, .ref M), (1, .int (nI i)), (2, .int (nI n)), (3, .int (nI (k + 1)))] ⟨rfl, rfl, rfl, ?_, trivial⟩ (ih t (k + 1) (by omega) (by rw [← Nat.add_assoc]; exact hx2) hy2 (by omega))
          show some (Value.int (nI k + 1)) = _
          rw [nI_succ]
        · refine ev_iconst (v := 0) d_Model_isNamed_54 (by decide) ?_
          refine ev_zret d_Model_isNamed_55 rfl rfl ?_
          rw [show eqS (c :: x) (d :: t) = false by show (decide _ && _) = false; rw [decide_eq_false c_51]; rfl]
          exact ⟨rfl, rfl⟩
theorem c_Model_isNamed (hT : (gl_t G)[0]? = some (cI, .int)) {T : List Int32} (hn : T.length ≤ 1500) (hh : hol (R 2) 0 T) {i : Nat} {q : Prm} (hi : i < 800) (hq : prAt R 1600 i q) : ct_E G m_Model_isNamed [.ref M, .int (nI i), .int (nI T.length)] (mo_ov cI cZ h0 M I R) (cv (.int (bI (eqS q.1 T))) (mo_ov cI cZ h0 M I R)) := by
  obtain ⟨a, c, r19, r20, r21, r22, r23, r24, b1, b2, n1, n2⟩ := hq
  have hin19 : vp_in (nI i) (mo_len 19) := vp_in_nI (show i < 800 by omega) (by decide)
  refine ct_of (ws' := tb_all) rfl rfl (Nat.le_of_ble_eq_true rfl) ?_
  refine ev_aload_n d_Model_isNamed_0 rfl rfl ?_
  refine mo_get (fa_Model_67 rfl rfl) d_Model_isNamed_1 rfl ?_
  refine ev_iload_n d_Model_isNamed_4 rfl rfl ?_
  refine mo_ald hT d_Model_isNamed_5 (by decide) hin19 ?_
  refine ev_aload_n d_Model_isNamed_6 rfl rfl ?_
  refine mo_get (fa_Model_64 rfl rfl) d_Model_isNamed_7 rfl ?_
  refine ev_iload_n d_Model_isNamed_10 rfl rfl ?_
  refine mo_ald hT d_Model_isNamed_11 (by decide) hin19 ?_
  refine ev_isub d_Model_isNamed_12 ?_
  rw [nI_clamp (by omega), r19, r20, pk_sub (by omega), show a + q.1.length - a = q.1.length by omega]
  refine ev_iload_n d_Model_isNamed_13 rfl rfl ?_
  refine ev_icmp_eq (tgt := 19) d_Model_isNamed_14 (by decide) (fun c_14 => ?_) (fun c_14 => ?_)
  · have hl : q.1.length = T.length := (nI_eq (by omega) (by omega)).mp c_14
    refine ev_iconst (v := 0) d_Model_isNamed_19 (by decide) ?_
    refine ev_istore_n d_Model_isNamed_20 rfl (by decide) ?_
    refine ev_as [(0, .ref M), (1, .int (nI i)), (2, .int (nI T.length)), (3, .int (nI 0))] ⟨rfl, rfl, rfl, rfl, trivial⟩ ?_
    exact l_Model_isNamed hT hi hn r19 (by omega) q.1 T 0 hl n1 hh (Nat.zero_add _)
  · refine ev_iconst (v := 0) d_Model_isNamed_17 (by decide) ?_
    refine ev_zret d_Model_isNamed_18 rfl rfl ?_
    have e : eqS q.1 T = false := by
      cases he : eqS q.1 T with
      | false => rfl
      | true => exact absurd (by rw [eqS_len _ _ he]) c_14
    rw [e]
    exact ⟨rfl, rfl⟩
theorem l_Model_parameterOf (hT : (gl_t G)[0]? = some (cI, .int)) (hQ : pmOk Q I R) {T : List Int32} (hn : T.length ≤ 1500) (hh : hol (R 2) 0 T) (pc : Int32) : ∀ (t : List Prm) (i : Nat), i + t.length = Q.length → Q.drop i = t →
    ev_E G m_Model_parameterOf 2 [(0, .ref M), (1, .int (nI T.length)), (2, .int pc), (3, .int (nI i))] [] (mo_ov cI cZ h0 M I R) (cv (.int (pmF T pc t i)) (mo_ov cI cZ h0 M I R)) := by
  intro t
  have hQl := hQ.2.1
  induction t with
  | nil =>
    intro i hi hd
    refine ev_iload_n d_Model_parameterOf_2 rfl rfl ?_
    refine ev_aload_n d_Model_parameterOf_3 rfl rfl ?_
    refine mo_get (fa_Model_347 rfl rfl) d_Model_parameterOf_4 rfl ?_
    rw [hQ.1]
    refine ev_icmp_ge (tgt := 37) d_Model_parameterOf_7 (by decide) (fun c_7 => ?_) (fun c_7 => ?_)
    · refine ev_iconst (v := (-1)) d_Model_parameterOf_37 (by decide) ?_
      refine ev_iret d_Model_parameterOf_38 rfl ?_
      exact ⟨rfl, rfl⟩
    · exact absurd (nI_le (by simp at hi; omega) (by simp at hi; omega)) c_7
  | cons q t ih =>
    intro i hi hd
    simp only [List.length_cons] at hi
    have hq : Q[i]? = some q := by
      have := congrArg (fun l => l[0]?) hd
      simpa using this
    have hd2 : Q.drop (i + 1) = t := by
      have := congrArg (fun l => l.drop 1) hd
      simpa [List.drop_drop, Nat.add_comm] using this
    have hp := hQ.2.2.2 i q hq
    have r21 : R 21 i = q.2.1 := by obtain ⟨a, c, -, -, r, -⟩ := hp; exact r
    have hin : vp_in (nI i) (mo_len 21) := vp_in_nI (show i < 800 by omega) (by decide)
    have on : ¬ (q.2.1 = pc ∧ eqS q.1 T = true) → ev_E G m_Model_parameterOf 31 [(0, .ref M), (1, .int (nI T.length)), (2, .int pc), (3, .int (nI i))] [] (mo_ov cI cZ h0 M I R) (cv (.int (pmF T pc (q :: t) i)) (mo_ov cI cZ h0 M I R)) := by
      intro z
      rw [show pmF T pc (q :: t) i = pmF T pc t (i + 1) from if_neg z]
      refine ev_iinc d_Model_parameterOf_31 rfl (by decide) ?_
      refine ev_goto (tgt := 2) d_Model_parameterOf_34 (by decide) ?_
      refine ev_as [(0, .ref M), (1, .int (nI T.length)), (2, .int pc), (3, .int (nI (i + 1)))] ⟨rfl, rfl, rfl, ?_, trivial⟩ (ih (i + 1) (by omega) hd2)
      show some (Value.int (nI i + 1)) = _
      rw [nI_succ]
    refine ev_iload_n d_Model_parameterOf_2 rfl rfl ?_
    refine ev_aload_n d_Model_parameterOf_3 rfl rfl ?_
    refine mo_get (fa_Model_347 rfl rfl) d_Model_parameterOf_4 rfl ?_
    rw [hQ.1]
    refine ev_icmp_ge (tgt := 37) d_Model_parameterOf_7 (by decide) (fun c_7 => ?_) (fun c_7 => ?_)
    · exact absurd c_7 (nI_ge (a := i) (b := Q.length) (by omega) (by omega))
    · refine ev_aload_n d_Model_parameterOf_10 rfl rfl ?_
      refine mo_get (fa_Model_70 rfl rfl) d_Model_parameterOf_11 rfl ?_
      refine ev_iload_n d_Model_parameterOf_14 rfl rfl ?_
      refine mo_ald hT d_Model_parameterOf_15 (by decide) hin ?_
      refine ev_iload_n d_Model_parameterOf_16 rfl rfl ?_
      rw [nI_clamp (by omega), r21]
      refine ev_icmp_ne (tgt := 31) d_Model_parameterOf_17 (by decide) (fun c_17 => ?_) (fun c_17 => ?_)
      · exact on (fun z => c_17 z.1)
      · refine ev_aload_n d_Model_parameterOf_20 rfl rfl ?_
        refine ev_iload_n d_Model_parameterOf_21 rfl rfl ?_
        refine ev_iload_n d_Model_parameterOf_22 rfl rfl ?_
        refine mo_Vv [.int (nI i), .int (nI T.length)] [] ca_Model_parameterOf_356 d_Model_parameterOf_23 rfl (Nat.le_of_ble_eq_true rfl) (c_Model_isNamed hT hn hh (by omega) hp) ?_
        refine ev_if_eq (tgt := 31) d_Model_parameterOf_26 (by decide) (fun c_26 => ?_) (fun c_26 => ?_)
        · exact on (fun z => by rw [z.2] at c_26; exact absurd c_26 (by decide))
        · have e : eqS q.1 T = true := by
            cases he : eqS q.1 T with
            | true => rfl
            | false => rw [he] at c_26; exact absurd rfl c_26
          refine ev_iload_n d_Model_parameterOf_29 rfl rfl ?_
          refine ev_iret d_Model_parameterOf_30 rfl ?_
          rw [show pmF T pc (q :: t) i = nI i from if_pos ⟨c_17, e⟩]
          exact ⟨rfl, rfl⟩
theorem c_Model_parameterOf (hT : (gl_t G)[0]? = some (cI, .int)) (hQ : pmOk Q I R) {T : List Int32} (hn : T.length ≤ 1500) (hh : hol (R 2) 0 T) (pc : Int32) : ct_E G m_Model_parameterOf [.ref M, .int (nI T.length), .int pc] (mo_ov cI cZ h0 M I R) (cv (.int (pmF T pc Q 0)) (mo_ov cI cZ h0 M I R)) := by
  refine ct_of (ws' := tb_all) rfl rfl (Nat.le_of_ble_eq_true rfl) ?_
  refine ev_iconst (v := 0) d_Model_parameterOf_0 (by decide) ?_
  refine ev_istore_n d_Model_parameterOf_1 rfl (by decide) ?_
  refine ev_as [(0, .ref M), (1, .int (nI T.length)), (2, .int pc), (3, .int (nI 0))] ⟨rfl, rfl, rfl, rfl, trivial⟩ ?_
  exact l_Model_parameterOf hT hQ hn hh pc Q 0 (Nat.zero_add _) rfl
end PRM
