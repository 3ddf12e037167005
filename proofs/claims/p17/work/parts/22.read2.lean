/-! the reference: read -/
def nNL (b : Int32) : Bool := decide (¬ b = 10)
/-- where a line's text ends -/
def eL (l : List Int32) : Nat := if cnt nNL l < l.length ∧ 0 < cnt nNL l ∧ l[cnt nNL l - 1]? = some 13 then cnt nNL l - 1 else cnt nNL l
def isBlH : List Int32 → Bool
  | [] => false
  | x :: _ => isBl x
def addLast (F : Flds) (xs : List Int32) : Flds := match F.getLast? with
  | none => F
  | some q => F.dropLast ++ [(q.1, q.2 ++ xs)]
theorem addLast_snoc (F : Flds) (q : List Int32 × List Int32) (xs : List Int32) : addLast (F ++ [q]) xs = F ++ [(q.1, q.2 ++ xs)] := by
  unfold addLast
  simp
/-- the lines of what is left, with what has been read so far -/
def rdS : Nat → List Int32 → Flds → Nat → Bool → Flds × Nat
  | 0, _, F, b, _ => (F, b)
  | n + 1, l, F, b, g =>
    if l = [] then (F, b)
    else if isBlH (l.take (eL l)) = true then (if g = true then rdS n (l.drop (cnt nNL l + 1)) (addLast F (l.take (eL l))) b g else rdS n (l.drop (cnt nNL l + 1)) F (b + 1) g)
    else match clp (l.take (eL l)) with
      | none => rdS n (l.drop (cnt nNL l + 1)) F (b + 1) false
      | some c => if F.length = 40 then (F, b) else rdS n (l.drop (cnt nNL l + 1)) (F ++ [lfd (l.take (eL l)) c]) b true
def bI (g : Bool) : Int32 := bif g then 1 else 0
def rI (I : Nat → Int32) (a b c : Int32) : Nat → Int32 := upd (upd (upd (upd (upd I 0 0) 3 0) 4 a) 5 b) 11 c
theorem rI_5 (I : Nat → Int32) (a b c x : Int32) : upd (rI I a b c) 5 x = rI I a x c := by
  unfold rI
  rw [upd_comm (by decide), upd_same]
theorem rI_11 (I : Nat → Int32) (a b c x : Int32) : upd (rI I a b c) 11 x = rI I a b x := by
  unfold rI
  rw [upd_same]
theorem rI_4 (I : Nat → Int32) (a b c x : Int32) : upd (rI I a b c) 4 x = rI I x b c := by
  unfold rI
  rw [upd_comm (by decide), upd_comm (f := upd (upd (upd I 0 0) 3 0) 4 a) (by decide), upd_same]
theorem eL_le (l : List Int32) : eL l ≤ cnt nNL l := by
  unfold eL
  split <;> omega
section READ2
variable {G : gl_G} {cI cZ : ClassId} {h0 : hp_T} {M : Nat}
theorem l_Model_read1 (hT : (gl_t G)[0]? = some (cI, .int)) {I : Nat → Int32} {R : Nat → Nat → Int32} {n b : Nat} {g : Int32} (hn : n ≤ 1500) {Z : Option Value → hp_T → Prop} : ∀ (t : List Int32) (k : Nat), hol (R 2) k t → k + t.length = n →
    ev_E G m_Model_read 66 [(0, .ref M), (1, .int (nI n)), (2, .int g), (3, .int (nI b)), (4, .int (nI (k + cnt nNL t)))] [] (mo_ov cI cZ h0 M I R) Z →
    ev_E G m_Model_read 42 [(0, .ref M), (1, .int (nI n)), (2, .int g), (3, .int (nI b)), (4, .int (nI k))] [] (mo_ov cI cZ h0 M I R) Z := by
  intro t
  induction t with
  | nil =>
    intro k hh hl K
    refine ev_iload d_Model_read_42 rfl ?_
    refine ev_iload_n d_Model_read_44 rfl rfl ?_
    refine ev_icmp_ge (tgt := 66) d_Model_read_45 (by decide) (fun c_45 => ?_) (fun c_45 => ?_)
    · exact K
    · exact absurd (nI_le (a := n) (b := k) (by simp at hl; omega) (by simp at hl; omega)) c_45
  | cons x t ih =>
    intro k hh hl K
    simp only [List.length_cons] at hl
    obtain ⟨hx, ht⟩ := hol_cons hh
    have hx' : R 2 (nI k).toNatClampNeg = x := by rw [nI_clamp (by omega)]; exact hx
    have hin : vp_in (nI k) (mo_len 2) := vp_in_nI (show k < 1500 by omega) (by decide)
    refine ev_iload d_Model_read_42 rfl ?_
    refine ev_iload_n d_Model_read_44 rfl rfl ?_
    refine ev_icmp_ge (tgt := 66) d_Model_read_45 (by decide) (fun c_45 => ?_) (fun c_45 => ?_)
    · exact absurd c_45 (nI_ge (a := k) (b := n) (by omega) (by omega))
    · refine ev_aload_n d_Model_read_48 rfl rfl ?_
      refine mo_get (fa_Model_13 rfl rfl) d_Model_read_49 rfl ?_
      refine ev_iload d_Model_read_52 rfl ?_
      refine mo_ald hT d_Model_read_54 (by decide) hin ?_
      refine ev_bipush (v := 10) d_Model_read_55 (by decide) ?_
      rw [hx']
      refine ev_icmp_eq (tgt := 66) d_Model_read_57 (by decide) (fun c_57 => ?_) (fun c_57 => ?_)
      · rw [cnt_no (show nNL x = false from decide_eq_false (fun z => z c_57))] at K
        exact K
      · refine ev_iinc d_Model_read_60 rfl (by decide) ?_
        refine ev_goto (tgt := 42) d_Model_read_63 (by decide) ?_
        rw [cnt_yes (show nNL x = true from decide_eq_true c_57), show k + (cnt nNL t + 1) = k + 1 + cnt nNL t by omega] at K
        refine ev_as [(0, .ref M), (1, .int (nI n)), (2, .int g), (3, .int (nI b)), (4, .int (nI (k + 1)))] ⟨rfl, rfl, rfl, rfl, ?_, trivial⟩ (ih (k + 1) ht (by omega) K)
        show some (Value.int (nI k + 1)) = _
        rw [nI_succ]
theorem l_Model_read2 (hT : (gl_t G)[0]? = some (cI, .int)) {I : Nat → Int32} {R : Nat → Nat → Int32} {n b : Nat} {g : Int32} (hn : n ≤ 1500) {Z : Option Value → hp_T → Prop} {l : List Int32} (hh : hol (R 2) b l) (hl : b + l.length = n)
    (K : ev_E G m_Model_read 103 [(0, .ref M), (1, .int (nI n)), (2, .int g), (3, .int (nI b)), (4, .int (nI (b + cnt nNL l))), (5, .int (nI (b + eL l)))] [] (mo_ov cI cZ h0 M I R) Z) :
    ev_E G m_Model_read 66 [(0, .ref M), (1, .int (nI n)), (2, .int g), (3, .int (nI b)), (4, .int (nI (b + cnt nNL l)))] [] (mo_ov cI cZ h0 M I R) Z := by
  have hs := cnt_le nNL l
  refine ev_iload d_Model_read_66 rfl ?_
  refine ev_iload_n d_Model_read_68 rfl rfl ?_
  refine ev_icmp_ge (tgt := 99) d_Model_read_69 (by decide) (fun c_69 => ?_) (fun c_69 => ?_)
  · refine ev_iload d_Model_read_99 rfl ?_
    refine ev_istore d_Model_read_101 (by decide) ?_
    have e : eL l = cnt nNL l := by
      unfold eL
      rw [if_neg]
      rintro ⟨h1, -⟩
      have := (nI_leI (by omega) (by omega)).mp c_69
      omega
    rw [e] at K
    exact K
  · refine ev_iload d_Model_read_72 rfl ?_
    refine ev_iload_n d_Model_read_74 rfl rfl ?_
    refine ev_icmp_le (tgt := 99) d_Model_read_75 (by decide) (fun c_75 => ?_) (fun c_75 => ?_)
    · refine ev_iload d_Model_read_99 rfl ?_
      refine ev_istore d_Model_read_101 (by decide) ?_
      have e : eL l = cnt nNL l := by
        unfold eL
        rw [if_neg]
        rintro ⟨-, h1, -⟩
        have := (nI_leI (by omega) (by omega)).mp c_75
        omega
      rw [e] at K
      exact K
    · have h1 : cnt nNL l < l.length := by
        rcases Nat.lt_or_ge (cnt nNL l) l.length with q | q
        · exact q
        · exact absurd (nI_le (by omega) (by omega)) c_69
      have h2 : 0 < cnt nNL l := by
        rcases Nat.eq_zero_or_pos (cnt nNL l) with q | q
        · exact absurd (nI_le (by omega) (by omega)) c_75
        · exact q
      have e1 : nI (b + cnt nNL l) - 1 = nI (b + (cnt nNL l - 1)) := by
        rw [show b + cnt nNL l = (b + (cnt nNL l - 1)) + 1 by omega, nI_pred]
      have hin : vp_in (nI (b + cnt nNL l) - 1) (mo_len 2) := by rw [e1]; exact vp_in_nI (show _ < 1500 by omega) (by decide)
      have hat := hol_at hh (j := cnt nNL l - 1) (by omega)
      refine ev_aload_n d_Model_read_78 rfl rfl ?_
      refine mo_get (fa_Model_13 rfl rfl) d_Model_read_79 rfl ?_
      refine ev_iload d_Model_read_82 rfl ?_
      refine ev_iconst (v := 1) d_Model_read_84 (by decide) ?_
      refine ev_isub d_Model_read_85 ?_
      refine mo_ald hT d_Model_read_86 (by decide) hin ?_
      refine ev_bipush (v := 13) d_Model_read_87 (by decide) ?_
      rw [e1, nI_clamp (by omega)]
      refine ev_icmp_ne (tgt := 99) d_Model_read_89 (by decide) (fun c_89 => ?_) (fun c_89 => ?_)
      · refine ev_iload d_Model_read_99 rfl ?_
        refine ev_istore d_Model_read_101 (by decide) ?_
        have e : eL l = cnt nNL l := by
          unfold eL
          rw [if_neg]
          rintro ⟨-, -, h3⟩
          rw [hat] at h3
          exact c_89 (Option.some.inj h3)
        rw [e] at K
        exact K
      · refine ev_iload d_Model_read_92 rfl ?_
        refine ev_iconst (v := 1) d_Model_read_94 (by decide) ?_
        refine ev_isub d_Model_read_95 ?_
        refine ev_goto (tgt := 101) d_Model_read_96 (by decide) ?_
        refine ev_istore d_Model_read_101 (by decide) ?_
        have e : eL l = cnt nNL l - 1 := by
          unfold eL
          rw [if_pos ⟨h1, h2, by rw [hat, c_89]⟩]
        rw [e] at K
        refine ev_as [(0, .ref M), (1, .int (nI n)), (2, .int g), (3, .int (nI b)), (4, .int (nI (b + cnt nNL l))), (5, .int (nI (b + (cnt nNL l - 1))))] ⟨rfl, rfl, rfl, rfl, rfl, ?_, trivial⟩ K
        show some (Value.int (nI (b + cnt nNL l) - 1)) = _
        rw [e1]
def rdP (cI cZ : ClassId) (h0 : hp_T) (M : Nat) (I : Nat → Int32) (R : Nat → Nat → Int32) (S : Flds × Nat) : Value → hp_T → Prop := fun v h' => v = .int (nI S.1.length) ∧ S.1.length ≤ 40 ∧ (fK S.1).length ≤ 1501 ∧ S.2 ≤ 1501 ∧ ∃ R', h' = mo_ov cI cZ h0 M (rI I (nI S.1.length) (nI S.2) (nI (fK S.1).length)) R' ∧ flds S.1 R' ∧ ∀ k, k ≠ 3 → k ≠ 4 → k ≠ 5 → k ≠ 6 → k ≠ 7 → R' k = R k
theorem l_Model_read (hT : (gl_t G)[0]? = some (cI, .int)) {I : Nat → Int32} {n : Nat} (hn : n ≤ 1500) : ∀ (fu : Nat) (l : List Int32) (b : Nat) (F : Flds) (bd : Nat) (g : Bool) (R : Nat → Nat → Int32), l.length ≤ fu → hol (R 2) b l → (b + l.length = n ∨ (l = [] ∧ n ≤ b)) → flds F R → F.length ≤ 40 → (fK F).length ≤ b → bd ≤ b → b ≤ 1501 → (g = true → F ≠ []) →
    ev_E G m_Model_read 34 [(0, .ref M), (1, .int (nI n)), (2, .int (bI g)), (3, .int (nI b))] [] (mo_ov cI cZ h0 M (rI I (nI F.length) (nI bd) (nI (fK F).length)) R) (cr (rdP cI cZ h0 M I R (rdS fu l F bd g))) := by
  intro fu
  induction fu with
  | zero =>
    intro l b F bd g R hfu hh hl hF hF40 hk hbd hb hg
    have hl0 : l = [] := List.length_eq_zero_iff.mp (by omega)
    subst hl0
    refine ev_iload_n d_Model_read_34 rfl rfl ?_
    refine ev_iload_n d_Model_read_35 rfl rfl ?_
    refine ev_icmp_ge (tgt := 229) d_Model_read_36 (by decide) (fun c_36 => ?_) (fun c_36 => ?_)
    · refine ev_aload_n d_Model_read_229 rfl rfl ?_
      refine mo_get (fa_Model_116 rfl rfl) d_Model_read_230 rfl ?_
      refine ev_iret d_Model_read_233 rfl ?_
      exact ⟨_, rfl, rfl, hF40, by show (fK F).length ≤ _; omega, by show bd ≤ _; omega, R, rfl, hF, fun _ _ _ _ _ _ => rfl⟩
    · exact absurd (nI_le (a := n) (b := b) (by simp at hl; omega) (by omega)) c_36
  | succ fu ih =>
    intro l b F bd g R hfu hh hl hF hF40 hk hbd hb hg
    refine ev_iload_n d_Model_read_34 rfl rfl ?_
    refine ev_iload_n d_Model_read_35 rfl rfl ?_
    refine ev_icmp_ge (tgt := 229) d_Model_read_36 (by decide) (fun c_36 => ?_) (fun c_36 => ?_)
    · have hl0 : l = [] := by
        have := (nI_leI (by omega) (by omega)).mp c_36
        rcases hl with q | q
        · exact List.length_eq_zero_iff.mp (by omega)
        · exact q.1
      subst hl0
      refine ev_aload_n d_Model_read_229 rfl rfl ?_
      refine mo_get (fa_Model_116 rfl rfl) d_Model_read_230 rfl ?_
      refine ev_iret d_Model_read_233 rfl ?_
      refine ⟨_, rfl, ?_⟩
      unfold rdS
      rw [if_pos rfl]
      exact ⟨rfl, hF40, by show (fK F).length ≤ _; omega, by show bd ≤ _; omega, R, rfl, hF, fun _ _ _ _ _ _ => rfl⟩
    · have hlt : b < n := by
        rcases Nat.lt_or_ge b n with q | q
        · exact q
        · exact absurd (nI_le q (by omega)) c_36
      have hl1 : b + l.length = n := by
        rcases hl with q | q
        · exact q
        · omega
      have hne : l ≠ [] := fun z => by rw [z] at hl1; simp at hl1; omega
      have hs := cnt_le nNL l
      have he := eL_le l
      have hlen : (l.take (eL l)).length = eL l := by rw [List.length_take]; omega
      have hhl : hol (R 2) b (l.take (eL l)) := hol_take hh _
      have hrest : hol (R 2) (b + (cnt nNL l + 1)) (l.drop (cnt nNL l + 1)) := hol_drop hh _
      have hfu2 : (l.drop (cnt nNL l + 1)).length ≤ fu := by rw [List.length_drop]; omega
      have hl2 : b + (cnt nNL l + 1) + (l.drop (cnt nNL l + 1)).length = n ∨ (l.drop (cnt nNL l + 1) = [] ∧ n ≤ b + (cnt nNL l + 1)) := by
        rw [List.length_drop]
        by_cases q : cnt nNL l + 1 ≤ l.length
        · left; omega
        · right
          exact ⟨List.drop_eq_nil_iff.mpr (by omega), by omega⟩
      -- back to the head
      have back : ∀ (F2 : Flds) (bd2 : Nat) (g2 : Bool) (R2 : Nat → Nat → Int32) (y6 : Int32), rdS (fu + 1) l F bd g = rdS fu (l.drop (cnt nNL l + 1)) F2 bd2 g2 → R2 2 = R 2 → flds F2 R2 → F2.length ≤ 40 → (fK F2).length ≤ b + (cnt nNL l + 1) → bd2 ≤ b + (cnt nNL l + 1) → (g2 = true → F2 ≠ []) → (∀ k, k ≠ 3 → k ≠ 4 → k ≠ 5 → k ≠ 6 → k ≠ 7 → R2 k = R k) →
          ev_E G m_Model_read 221 [(0, .ref M), (1, .int (nI n)), (2, .int (bI g2)), (3, .int (nI b)), (4, .int (nI (b + cnt nNL l))), (5, .int (nI (b + eL l))), (6, .int y6)] [] (mo_ov cI cZ h0 M (rI I (nI F2.length) (nI bd2) (nI (fK F2).length)) R2) (cr (rdP cI cZ h0 M I R (rdS (fu + 1) l F bd g))) := by
        intro F2 bd2 g2 R2 y6 e0 e2 hF2 hF240 hk2 hbd2 hg2 hR2
        refine ev_iload d_Model_read_221 rfl ?_
        refine ev_iconst (v := 1) d_Model_read_223 (by decide) ?_
        refine ev_iadd d_Model_read_224 ?_
        refine ev_istore_n d_Model_read_225 rfl (by decide) ?_
        refine ev_goto (tgt := 34) d_Model_read_226 (by decide) ?_
        rw [e0]
        refine ev_as [(0, .ref M), (1, .int (nI n)), (2, .int (bI g2)), (3, .int (nI (b + (cnt nNL l + 1))))] ⟨rfl, rfl, rfl, ?_, trivial⟩ (ev_to (ih (l.drop (cnt nNL l + 1)) (b + (cnt nNL l + 1)) F2 bd2 g2 R2 hfu2 (by rw [e2]; exact hrest) hl2 hF2 hF240 hk2 hbd2 (by omega) hg2) ?_)
        · show some (Value.int (nI (b + cnt nNL l) + 1)) = _
          rw [← nI_succ, Nat.add_assoc]
        · rintro o h' ⟨v, rfl, hv, q1, q2, q3, R', hh', hf', hr'⟩
          exact ⟨v, rfl, hv, q1, q2, q3, R', hh', hf', fun k a1 a2 a3 a4 a5 => (hr' k a1 a2 a3 a4 a5).trans (hR2 k a1 a2 a3 a4 a5)⟩
      refine ev_iload_n d_Model_read_39 rfl rfl ?_
      refine ev_istore d_Model_read_40 (by decide) ?_
      refine ev_as [(0, .ref M), (1, .int (nI n)), (2, .int (bI g)), (3, .int (nI b)), (4, .int (nI b))] ⟨rfl, rfl, rfl, rfl, rfl, trivial⟩ ?_
      refine l_Model_read1 hT hn l b hh hl1 ?_
      refine l_Model_read2 hT hn hh hl1 ?_
      refine ev_aload_n d_Model_read_103 rfl rfl ?_
      refine ev_iload_n d_Model_read_104 rfl rfl ?_
      refine ev_iload d_Model_read_105 rfl ?_
      have ce := c_Model_colonOf (G := G) (cZ := cZ) (h0 := h0) (M := M) (I := rI I (nI F.length) (nI bd) (nI (fK F).length)) hT hhl (by rw [hlen]; omega)
      rw [hlen] at ce
      refine mo_Vv [.int (nI b), .int (nI (b + eL l))] [] ca_Model_read_125 d_Model_read_107 rfl (Nat.le_of_ble_eq_true rfl) (ce) ?_
      refine ev_istore d_Model_read_110 (by decide) ?_
      refine ev_iload d_Model_read_112 rfl ?_
      refine ev_iload_n d_Model_read_114 rfl rfl ?_
      have other : isBlH (l.take (eL l)) = false → ev_E G m_Model_read 175 [(0, .ref M), (1, .int (nI n)), (2, .int (bI g)), (3, .int (nI b)), (4, .int (nI (b + cnt nNL l))), (5, .int (nI (b + eL l))), (6, .int (cla b (l.take (eL l))))] [] (mo_ov cI cZ h0 M (rI I (nI F.length) (nI bd) (nI (fK F).length)) R) (cr (rdP cI cZ h0 M I R (rdS (fu + 1) l F bd g))) := by
        intro hbl
        refine ev_iload d_Model_read_175 rfl ?_
        refine ev_iconst (v := (-1)) d_Model_read_177 (by decide) ?_
        refine ev_icmp_ne (tgt := 196) d_Model_read_178 (by decide) (fun c_178 => ?_) (fun c_178 => ?_)
        · obtain ⟨c, hc⟩ : ∃ c, clp (l.take (eL l)) = some c := by
            cases hc : clp (l.take (eL l)) with
            | none => exact absurd (by unfold cla; rw [hc]) c_178
            | some c => exact ⟨c, rfl⟩
          have hcl := clp_lt hc
          refine ev_aload_n d_Model_read_196 rfl rfl ?_
          refine mo_get (fa_Model_116 rfl rfl) d_Model_read_197 rfl ?_
          refine ev_bipush (v := 40) d_Model_read_200 (by decide) ?_
          refine ev_icmp_ne (tgt := 210) d_Model_read_202 (by decide) (fun c_202 => ?_) (fun c_202 => ?_)
          · have hlt40 : F.length < 40 := by
              rcases Nat.lt_or_ge F.length 40 with q | q
              · exact q
              · exact absurd (show nI F.length = 40 by rw [show F.length = 40 by omega]; rfl) c_202
            have eS : rdS (fu + 1) l F bd g = rdS fu (l.drop (cnt nNL l + 1)) (F ++ [lfd (l.take (eL l)) c]) bd true := by
              rw [rdS, if_neg hne, if_neg (by rw [hbl]; decide), hc]
              show (if F.length = 40 then _ else _) = _
              rw [if_neg (by omega)]
            have ecl : cla b (l.take (eL l)) = nI (b + c) := by unfold cla; rw [hc]
            rw [ecl]
            refine ev_aload_n d_Model_read_210 rfl rfl ?_
            refine ev_iload_n d_Model_read_211 rfl rfl ?_
            refine ev_iload d_Model_read_212 rfl ?_
            refine ev_iload d_Model_read_214 rfl ?_
            have ca := c_Model_addField (G := G) (cZ := cZ) (h0 := h0) (M := M) (I := rI I (nI F.length) (nI bd) (nI (fK F).length)) hT hF hhl (by rw [hlen]; omega) hc rfl hlt40 rfl (by rw [hlen]; omega)
            rw [hlen] at ca
            refine mo_Vn [.int (nI b), .int (nI (b + c)), .int (nI (b + eL l))] [] ca_Model_read_129 d_Model_read_216 rfl (Nat.le_of_ble_eq_true rfl) (ca) (fun h1 z => ?_)
            obtain ⟨R2, rfl, hF2, hR2⟩ := z
            refine ev_iconst (v := 1) d_Model_read_219 (by decide) ?_
            refine ev_istore_n d_Model_read_220 rfl (by decide) ?_
            rw [rI_11, rI_4]
            have hfk : (fK (F ++ [lfd (l.take (eL l)) c])).length ≤ (fK F).length + eL l := by
              rw [fK_snoc, List.length_append, List.length_append]
              show _ + (((l.take (eL l)).take (cnt isNm (l.take (eL l)))).length + ((l.take (eL l)).drop (c + 1)).length) ≤ _
              rw [List.length_take, List.length_drop, hlen]
              omega
            have k9 := back (F ++ [lfd (l.take (eL l)) c]) bd true R2 (nI (b + c)) eS (hR2 2 (by decide) (by decide) (by decide) (by decide) (by decide)) hF2 (by simp; omega) (by omega) (by omega) (fun _ => by simp) hR2
            rw [show (F ++ [lfd (l.take (eL l)) c]).length = F.length + 1 by simp] at k9
            exact k9
          · refine ev_aload_n d_Model_read_205 rfl rfl ?_
            refine mo_get (fa_Model_116 rfl rfl) d_Model_read_206 rfl ?_
            refine ev_iret d_Model_read_209 rfl ?_
            have h40 : F.length = 40 := (nI_eq (by omega) (by omega)).mp (show nI F.length = nI 40 from c_202)
            have eS : rdS (fu + 1) l F bd g = (F, bd) := by
              rw [rdS, if_neg hne, if_neg (by rw [hbl]; decide), hc]
              show (if F.length = 40 then _ else _) = _
              rw [if_pos h40]
            rw [eS]
            exact ⟨_, rfl, rfl, hF40, by show (fK F).length ≤ _; omega, by show bd ≤ _; omega, R, rfl, hF, fun _ _ _ _ _ _ => rfl⟩
        · have hc : clp (l.take (eL l)) = none := by
            cases hc : clp (l.take (eL l)) with
            | none => rfl
            | some c =>
              have h1 : cla b (l.take (eL l)) = nI (b + c) := by unfold cla; rw [hc]
              have h2 := (clp_lt hc).1
              rw [h1] at c_178
              exact absurd (show nI (b + c) < 0 by rw [c_178]; decide) (nI_pos (by omega))
          have eS : rdS (fu + 1) l F bd g = rdS fu (l.drop (cnt nNL l + 1)) F (bd + 1) false := by
            rw [rdS, if_neg hne, if_neg (by rw [hbl]; decide), hc]
          refine ev_aload_n d_Model_read_181 rfl rfl ?_
          refine ev_dup d_Model_read_182 rfl ?_
          refine mo_get (fa_Model_122 rfl rfl) d_Model_read_183 rfl ?_
          refine ev_iconst (v := 1) d_Model_read_186 (by decide) ?_
          refine ev_iadd d_Model_read_187 ?_
          refine mo_put (fp_Model_122 rfl rfl) d_Model_read_188 (Nat.le_of_ble_eq_true rfl) rfl rfl rfl ?_
          refine ev_iconst (v := 0) d_Model_read_191 (by decide) ?_
          refine ev_istore_n d_Model_read_192 rfl (by decide) ?_
          refine ev_goto (tgt := 221) d_Model_read_193 (by decide) ?_
          rw [rI_5, show (rI I (nI F.length) (nI bd) (nI (fK F).length)) 5 + 1 = nI (bd + 1) from (nI_succ bd).symm]
          exact back F (bd + 1) false R _ eS rfl hF hF40 (by omega) (by omega) (fun z => by cases z) (fun _ _ _ _ _ _ => rfl)
      refine ev_icmp_le (tgt := 175) d_Model_read_115 (by decide) (fun c_115 => ?_) (fun c_115 => ?_)
      · have e0 : eL l = 0 := by
          have := (nI_leI (by omega) (by omega)).mp c_115
          omega
        exact other (by rw [e0]; rfl)
      · have e1 : 0 < eL l := by
          rcases Nat.eq_zero_or_pos (eL l) with q | q
          · exact absurd (nI_le (by omega) (by omega)) c_115
          · exact q
        obtain ⟨x, t, hxt⟩ : ∃ x t, l.take (eL l) = x :: t := by
          cases hh9 : l.take (eL l) with
          | nil => rw [hh9] at hlen; simp at hlen; omega
          | cons x t => exact ⟨x, t, rfl⟩
        have hx : R 2 b = x := by
          rw [hxt] at hhl
          exact (hol_cons hhl).1
        have hin : vp_in (nI b) (mo_len 2) := vp_in_nI (show b < 1500 by omega) (by decide)
        refine ev_aload_n d_Model_read_118 rfl rfl ?_
        refine mo_get (fa_Model_13 rfl rfl) d_Model_read_119 rfl ?_
        refine ev_iload_n d_Model_read_122 rfl rfl ?_
        refine mo_ald hT d_Model_read_123 (by decide) hin ?_
        rw [nI_clamp (by omega), hx]
        refine ev_Sv [.int x] [] ca_Model_read_109 d_Model_read_124 rfl (Nat.le_of_ble_eq_true rfl) (c_Model_isBlank x) ?_
        refine ev_if_eq (tgt := 175) d_Model_read_127 (by decide) (fun c_127 => ?_) (fun c_127 => ?_)
        · exact other (by rw [hxt]; exact bl_no c_127)
        · have hbl : isBlH (l.take (eL l)) = true := by rw [hxt]; exact bl_of c_127
          refine ev_iload_n d_Model_read_130 rfl rfl ?_
          refine ev_if_eq (tgt := 162) d_Model_read_131 (by decide) (fun c_131 => ?_) (fun c_131 => ?_)
          · have hg0 : g = false := by
              cases g with
              | false => rfl
              | true => exact absurd c_131 (by decide)
            subst hg0
            have eS : rdS (fu + 1) l F bd false = rdS fu (l.drop (cnt nNL l + 1)) F (bd + 1) false := by
              rw [rdS, if_neg hne, if_pos hbl]
              rfl
            refine ev_aload_n d_Model_read_162 rfl rfl ?_
            refine ev_dup d_Model_read_163 rfl ?_
            refine mo_get (fa_Model_122 rfl rfl) d_Model_read_164 rfl ?_
            refine ev_iconst (v := 1) d_Model_read_167 (by decide) ?_
            refine ev_iadd d_Model_read_168 ?_
            refine mo_put (fp_Model_122 rfl rfl) d_Model_read_169 (Nat.le_of_ble_eq_true rfl) rfl rfl rfl ?_
            refine ev_goto (tgt := 221) d_Model_read_172 (by decide) ?_
            rw [rI_5, show (rI I (nI F.length) (nI bd) (nI (fK F).length)) 5 + 1 = nI (bd + 1) from (nI_succ bd).symm]
            exact back F (bd + 1) false R _ eS rfl hF hF40 (by omega) (by omega) (fun z => by cases z) (fun _ _ _ _ _ _ => rfl)
          · have hg1 : g = true := by
              cases g with
              | false => exact absurd rfl c_131
              | true => rfl
            subst hg1
            have eS : rdS (fu + 1) l F bd true = rdS fu (l.drop (cnt nNL l + 1)) (addLast F (l.take (eL l))) bd true := by
              rw [rdS, if_neg hne, if_pos hbl]
              rfl
            obtain ⟨F0, q, rfl⟩ : ∃ F0 q, F = F0 ++ [q] := by
              rcases List.eq_nil_or_concat F with z | ⟨F0, q, z⟩
              · exact absurd z (hg rfl)
              · exact ⟨F0, q, by rw [z]; simp⟩
            obtain ⟨nm, vl⟩ := q
            rw [addLast_snoc] at eS
            have hlenF : (F0 ++ [(nm, vl)]).length = F0.length + 1 := by simp
            refine ev_aload_n d_Model_read_134 rfl rfl ?_
            refine ev_iload_n d_Model_read_135 rfl rfl ?_
            refine ev_iload d_Model_read_136 rfl ?_
            have ck := c_Model_keep (G := G) (cZ := cZ) (h0 := h0) (M := M) (I := rI I (nI (F0 ++ [(nm, vl)]).length) (nI bd) (nI (fK (F0 ++ [(nm, vl)])).length)) (kl := (fK (F0 ++ [(nm, vl)])).length) hT hhl (by rw [hlen]; omega) rfl (by rw [hlen]; omega)
            rw [hlen] at ck
            refine mo_Vn [.int (nI b), .int (nI (b + eL l))] [] ca_Model_read_119 d_Model_read_138 rfl (Nat.le_of_ble_eq_true rfl) (ck) (fun h1 z => ?_)
            subst z
            rw [rI_11]
            have ef : (nI (F0 ++ [(nm, vl)]).length : Int32) - 1 = nI F0.length := by rw [hlenF, nI_pred]
            have hin6 : vp_in (nI (F0 ++ [(nm, vl)]).length - 1) (mo_len 6) := by rw [ef]; exact vp_in_nI (show F0.length < 40 by omega) (by decide)
            have g6 := (hF.2 F0.length (nm, vl) (by rw [List.getElem?_append_right (Nat.le_refl _), Nat.sub_self]; rfl)).2.2.2
            refine ev_aload_n d_Model_read_141 rfl rfl ?_
            refine mo_get (fa_Model_25 rfl rfl) d_Model_read_142 rfl ?_
            refine ev_aload_n d_Model_read_145 rfl rfl ?_
            refine mo_get (fa_Model_116 rfl rfl) d_Model_read_146 rfl ?_
            refine ev_iconst (v := 1) d_Model_read_149 (by decide) ?_
            refine ev_isub d_Model_read_150 ?_
            refine ev_dup2_11 d_Model_read_151 rfl rfl ?_
            refine mo_ald hT d_Model_read_152 (by decide) hin6 ?_
            refine ev_iload d_Model_read_153 rfl ?_
            refine ev_iload_n d_Model_read_155 rfl rfl ?_
            refine ev_isub d_Model_read_156 ?_
            refine ev_iadd d_Model_read_157 ?_
            refine mo_ast hT d_Model_read_158 (by decide) hin6 ?_
            refine ev_goto (tgt := 221) d_Model_read_159 (by decide) ?_
            rw [show (rI I (nI (F0 ++ [(nm, vl)]).length) (nI bd) (nI ((fK (F0 ++ [(nm, vl)])).length + eL l))) 4 - 1 = nI F0.length from ef, nI_clamp (by omega)]
            rw [up_ne (show 6 ≠ 7 by decide), g6, pk_sub (by omega), show b + eL l - b = eL l by omega, nI_add]
            have e9 : fK (F0 ++ [(nm, vl ++ l.take (eL l))]) = fK (F0 ++ [(nm, vl)]) ++ l.take (eL l) := by simp [fK]
            have hfk : (fK (F0 ++ [(nm, vl ++ l.take (eL l))])).length = (fK (F0 ++ [(nm, vl)])).length + eL l := by rw [e9, List.length_append, hlen]
            have k9 := back (F0 ++ [(nm, vl ++ l.take (eL l))]) bd true (va_up (va_up R 7 (cpl (R 7) (fK (F0 ++ [(nm, vl)])).length (l.take (eL l)))) 6 (upd (R 6) F0.length (nI (vl.length + eL l)))) (cla b (l.take (eL l))) eS rfl (flds_more hF rfl rfl rfl (by show upd (R 6) F0.length (nI (vl.length + eL l)) = _; rw [hlen]) rfl) (by simp; omega) (by omega) (by omega) (fun _ => by simp) (fun k _ _ _ k6 k7 => by rw [up_ne k6, up_ne k7])
            rw [hfk, show (F0 ++ [(nm, vl ++ l.take (eL l))]).length = (F0 ++ [(nm, vl)]).length by simp] at k9
            exact k9
theorem c_Model_read (hT : (gl_t G)[0]? = some (cI, .int)) {I : Nat → Int32} {R : Nat → Nat → Int32} {T : List Int32} (hn : T.length ≤ 1500) (hI : I 3 = nI T.length) (hh : hol (R 2) 0 T) : ct_E G m_Model_read [.ref M] (mo_ov cI cZ h0 M I R) (cr (rdP cI cZ h0 M I R (rdS T.length T [] 0 false))) := by
  refine ct_of (ws' := tb_all) rfl rfl (Nat.le_of_ble_eq_true rfl) ?_
  refine ev_aload_n d_Model_read_0 rfl rfl ?_
  refine ev_iconst (v := 0) d_Model_read_1 (by decide) ?_
  refine mo_put (fp_Model_99 rfl rfl) d_Model_read_2 (Nat.le_of_ble_eq_true rfl) rfl rfl rfl ?_
  refine ev_aload_n d_Model_read_5 rfl rfl ?_
  refine mo_get (fa_Model_106 rfl rfl) d_Model_read_6 rfl ?_
  refine ev_istore_n d_Model_read_9 rfl (by decide) ?_
  refine ev_aload_n d_Model_read_10 rfl rfl ?_
  refine ev_iconst (v := 0) d_Model_read_11 (by decide) ?_
  refine mo_put (fp_Model_106 rfl rfl) d_Model_read_12 (Nat.le_of_ble_eq_true rfl) rfl rfl rfl ?_
  refine ev_aload_n d_Model_read_15 rfl rfl ?_
  refine ev_iconst (v := 0) d_Model_read_16 (by decide) ?_
  refine mo_put (fp_Model_116 rfl rfl) d_Model_read_17 (Nat.le_of_ble_eq_true rfl) rfl rfl rfl ?_
  refine ev_aload_n d_Model_read_20 rfl rfl ?_
  refine ev_iconst (v := 0) d_Model_read_21 (by decide) ?_
  refine mo_put (fp_Model_122 rfl rfl) d_Model_read_22 (Nat.le_of_ble_eq_true rfl) rfl rfl rfl ?_
  refine ev_aload_n d_Model_read_25 rfl rfl ?_
  refine ev_iconst (v := 0) d_Model_read_26 (by decide) ?_
  refine mo_put (fp_Model_113 rfl rfl) d_Model_read_27 (Nat.le_of_ble_eq_true rfl) rfl rfl rfl ?_
  refine ev_iconst (v := 0) d_Model_read_30 (by decide) ?_
  refine ev_istore_n d_Model_read_31 rfl (by decide) ?_
  refine ev_iconst (v := 0) d_Model_read_32 (by decide) ?_
  refine ev_istore_n d_Model_read_33 rfl (by decide) ?_
  rw [show (upd I 0 0) 3 = nI T.length from hI]
  refine ev_as [(0, .ref M), (1, .int (nI T.length)), (2, .int (bI false)), (3, .int (nI 0))] ⟨rfl, rfl, rfl, rfl, trivial⟩ ?_
  have k := l_Model_read (G := G) (cZ := cZ) (h0 := h0) (M := M) (I := I) hT hn T.length T 0 [] 0 false R (Nat.le_refl _) hh (Or.inl (Nat.zero_add _)) (flds_nil R) (Nat.zero_le _) (Nat.zero_le _) (Nat.zero_le _) (Nat.zero_le _) (fun z => by cases z)
  exact k
end READ2
