/-! the reference: field, fieldByte, find -/
/-- a FIELD's NAME or VALUE -/
def fdt (F : Flds) (f what : Int32) : Option (List Int32) := if f < 0 then none else match F[f.toNatClampNeg]? with
  | none => none
  | some q => if what = 0 then some q.1 else if what = 1 then some q.2 else none
def oL : Option (List Int32) → Int32
  | none => -1
  | some l => nI l.length
def oB (o : Option (List Int32)) (k : Int32) : Int32 := match o with
  | none => -1
  | some l => rg l k
def eqS : List Int32 → List Int32 → Bool
  | [], [] => true
  | x :: a, y :: b => decide (sp_small x = sp_small y) && eqS a b
  | _, _ => false
theorem eqS_len : ∀ (a b : List Int32), eqS a b = true → a.length = b.length
  | [], [], _ => rfl
  | x :: a, y :: b, h => by
    simp only [eqS, Bool.and_eq_true] at h
    simp [eqS_len a b h.2]
  | [], y :: b, h => by simp [eqS] at h
  | x :: a, [], h => by simp [eqS] at h
/-- the first field of that name, from number i on -/
def fnd (T : List Int32) : Flds → Nat → Int32
  | [], _ => -1
  | q :: F, i => if eqS q.1 T = true then nI i else fnd T F (i + 1)
theorem w01 {w : Int32} (h0 : ¬ w < 0) (h1 : w ≤ 1) : w = 0 ∨ w = 1 := by
  obtain ⟨j, hj, rfl⟩ := nI_of h0
  have := (nI_leI hj (by decide)).mp (show nI j ≤ nI 1 from h1)
  rcases (show j = 0 ∨ j = 1 by omega) with q | q
  · left; rw [q]; rfl
  · right; rw [q]; rfl
theorem isF_0 {n : Nat} {f : Int32} (hn : n < 2 ^ 31) (h : sp_isField (nI n) f = 0) {α : Type} (F : List α) (hF : F.length = n) : f < 0 ∨ F[f.toNatClampNeg]? = none := by
  unfold sp_isField at h
  split at h
  · exact absurd h (by decide)
  · rename_i z
    by_cases h0 : f < 0
    · exact Or.inl h0
    · right
      have h1 : nI n ≤ f := by
        by_cases q : nI n ≤ f
        · exact q
        · exact absurd ⟨h0, q⟩ z
      obtain ⟨j, hj, rfl⟩ := nI_of h0
      rw [nI_clamp hj]
      exact List.getElem?_eq_none (by have := (nI_leI hn hj).mp h1; omega)
theorem isF_1 {n : Nat} {f : Int32} (hn : n < 2 ^ 31) (h : ¬ sp_isField (nI n) f = 0) : ∃ j : Nat, j < n ∧ f = nI j := by
  unfold sp_isField at h
  split at h
  · rename_i z
    obtain ⟨j, hj, e, -⟩ := pk_mu z.1 z.2 hn
    exact ⟨j, hj, e⟩
  · exact absurd rfl h
section FIND
variable {G : gl_G} {cI cZ : ClassId} {h0 : hp_T} {M : Nat} {I : Nat → Int32} {R : Nat → Nat → Int32} {F : Flds}
theorem c_Model_field (hT : (gl_t G)[0]? = some (cI, .int)) (hF : flds F R) (hI : I 4 = nI F.length) (hn : F.length ≤ 40) (f w : Int32) : ct_E G m_Model_field [.ref M, .int f, .int w] (mo_ov cI cZ h0 M I R) (cr (fun v h' => v = .int (oL (fdt F f w)) ∧ h' = mo_ov cI cZ h0 M (upd I 0 0) R)) := by
  refine ct_of (ws' := tb_all) rfl rfl (Nat.le_of_ble_eq_true rfl) ?_
  refine ev_aload_n d_Model_field_0 rfl rfl ?_
  refine ev_iconst (v := 0) d_Model_field_1 (by decide) ?_
  refine mo_put (fp_Model_99 rfl rfl) d_Model_field_2 (Nat.le_of_ble_eq_true rfl) rfl rfl rfl ?_
  refine ev_aload_n d_Model_field_5 rfl rfl ?_
  refine ev_iload_n d_Model_field_6 rfl rfl ?_
  refine mo_Vv [.int f] [] ca_Model_field_137 d_Model_field_7 rfl (Nat.le_of_ble_eq_true rfl) (c_Model_isField f) ?_
  rw [show (upd I 0 0) 4 = nI F.length from hI]
  refine ev_if_eq (tgt := 22) d_Model_field_10 (by decide) (fun c_10 => ?_) (fun c_10 => ?_)
  · refine ev_iconst (v := (-1)) d_Model_field_22 (by decide) ?_
    refine ev_iret d_Model_field_23 rfl ?_
    refine ⟨_, rfl, ?_, rfl⟩
    have e : fdt F f w = none := by
      unfold fdt
      rcases isF_0 (by omega) c_10 F rfl with q | q
      · rw [if_pos q]
      · rw [q]; split <;> rfl
    rw [e]; rfl
  · obtain ⟨j, hj, rfl⟩ := isF_1 (by omega) c_10
    have hq : F[j]? = some F[j] := List.getElem?_eq_getElem hj
    have hr := hF.2 j _ hq
    have ef : ∀ x : Int32, fdt F (nI j) x = if x = 0 then some F[j].1 else if x = 1 then some F[j].2 else none := fun x => by
      unfold fdt
      rw [if_neg (nI_pos (by omega)), nI_clamp (by omega), hq]
    refine ev_iload_n d_Model_field_13 rfl rfl ?_
    refine ev_if_lt (tgt := 22) d_Model_field_14 (by decide) (fun c_14 => ?_) (fun c_14 => ?_)
    · refine ev_iconst (v := (-1)) d_Model_field_22 (by decide) ?_
      refine ev_iret d_Model_field_23 rfl ?_
      refine ⟨_, rfl, ?_, rfl⟩
      rw [ef, if_neg (fun z => by rw [z] at c_14; exact absurd c_14 (by decide)), if_neg (fun z => by rw [z] at c_14; exact absurd c_14 (by decide))]
      rfl
    · refine ev_iload_n d_Model_field_17 rfl rfl ?_
      refine ev_iconst (v := 1) d_Model_field_18 (by decide) ?_
      refine ev_icmp_le (tgt := 24) d_Model_field_19 (by decide) (fun c_19 => ?_) (fun c_19 => ?_)
      · have hin : vp_in (nI j) 40 := vp_in_nI (by omega) (by decide)
        refine ev_iload_n d_Model_field_24 rfl rfl ?_
        refine ev_if_ne (tgt := 37) d_Model_field_25 (by decide) (fun c_25 => ?_) (fun c_25 => ?_)
        · refine ev_aload_n d_Model_field_37 rfl rfl ?_
          refine mo_get (fa_Model_25 rfl rfl) d_Model_field_38 rfl ?_
          refine ev_iload_n d_Model_field_41 rfl rfl ?_
          refine mo_ald hT d_Model_field_42 (by decide) hin ?_
          refine ev_iret d_Model_field_43 rfl ?_
          refine ⟨_, rfl, ?_, rfl⟩
          rw [ef, if_neg c_25, if_pos ((w01 c_14 c_19).resolve_left c_25), nI_clamp (by omega), hr.2.2.2]
          rfl
        · refine ev_aload_n d_Model_field_28 rfl rfl ?_
          refine mo_get (fa_Model_19 rfl rfl) d_Model_field_29 rfl ?_
          refine ev_iload_n d_Model_field_32 rfl rfl ?_
          refine mo_ald hT d_Model_field_33 (by decide) hin ?_
          refine ev_goto (tgt := 43) d_Model_field_34 (by decide) ?_
          refine ev_iret d_Model_field_43 rfl ?_
          refine ⟨_, rfl, ?_, rfl⟩
          rw [ef, if_pos c_25, nI_clamp (by omega), hr.2.1]
          rfl
      · refine ev_iconst (v := (-1)) d_Model_field_22 (by decide) ?_
        refine ev_iret d_Model_field_23 rfl ?_
        refine ⟨_, rfl, ?_, rfl⟩
        rw [ef, if_neg (fun z => by rw [z] at c_19; exact absurd (by decide) c_19), if_neg (fun z => by rw [z] at c_19; exact absurd (by decide) c_19)]
        rfl
theorem flds_name {i : Nat} {q : List Int32 × List Int32} (hF : flds F R) (hq : F[i]? = some q) : ∃ na va : Nat, R 3 i = nI na ∧ R 5 i = nI va ∧ na + q.1.length ≤ (fK F).length ∧ va + q.2.length ≤ (fK F).length ∧ hol (R 7) na q.1 ∧ hol (R 7) va q.2 := by
  obtain ⟨r3, r4, r5, r6⟩ := hF.2 i q hq
  have hi := (List.getElem?_eq_some_iff.mp hq).1
  have e : fK F = fK (F.take i) ++ (q.1 ++ (q.2 ++ fK (F.drop (i + 1)))) := by
    have e1 : F = F.take i ++ (q :: F.drop (i + 1)) := by
      rw [← (List.getElem?_eq_some_iff.mp hq).2]
      rw [List.getElem_cons_drop, List.take_append_drop]
    have e2 := congrArg fK e1
    rw [e2]
    simp [fK]
  have h1 := hF.1
  rw [e] at h1
  have l := congrArg List.length e
  simp only [List.length_append] at l
  have h2 := hol_right h1
  have h3 := hol_right h2
  rw [Nat.zero_add] at h2 h3
  exact ⟨_, _, r3, r5, by omega, by omega, hol_left h2, hol_left h3⟩
theorem c_Model_fieldByte (hT : (gl_t G)[0]? = some (cI, .int)) (hF : flds F R) (hI : I 4 = nI F.length) (hn : F.length ≤ 40) (hk : (fK F).length ≤ 1501) (f w k : Int32) : ct_E G m_Model_fieldByte [.ref M, .int f, .int w, .int k] (mo_ov cI cZ h0 M I R) (cr (fun v h' => v = .int (oB (fdt F f w) k) ∧ h' = mo_ov cI cZ h0 M (upd I 0 0) R)) := by
  refine ct_of (ws' := tb_all) rfl rfl (Nat.le_of_ble_eq_true rfl) ?_
  refine ev_aload_n d_Model_fieldByte_0 rfl rfl ?_
  refine ev_iload_n d_Model_fieldByte_1 rfl rfl ?_
  refine ev_iload_n d_Model_fieldByte_2 rfl rfl ?_
  refine mo_Vr [.int f, .int w] [] ca_Model_fieldByte_140 d_Model_fieldByte_3 rfl (Nat.le_of_ble_eq_true rfl) (c_Model_field hT hF hI hn f w) (fun v h1 z => ?_)
  obtain ⟨rfl, rfl⟩ := z
  refine ev_istore d_Model_fieldByte_6 (by decide) ?_
  refine ev_iload_n d_Model_fieldByte_8 rfl rfl ?_
  have hlen : ∀ l, fdt F f w = some l → ∃ (j : Nat) (q : List Int32 × List Int32), f = nI j ∧ j < F.length ∧ F[j]? = some q ∧ ((w = 0 ∧ l = q.1) ∨ (w = 1 ∧ l = q.2)) := by
    intro l hl
    unfold fdt at hl
    split at hl
    · cases hl
    · rename_i h0
      obtain ⟨j, hj, rfl⟩ := nI_of h0
      rw [nI_clamp hj] at hl
      cases hq : F[j]? with
      | none => rw [hq] at hl; cases hl
      | some q =>
        rw [hq] at hl
        have hj2 := (List.getElem?_eq_some_iff.mp hq).1
        simp only at hl
        split at hl
        · rename_i hw; cases hl; exact ⟨j, q, rfl, hj2, hq, Or.inl ⟨hw, rfl⟩⟩
        · split at hl
          · rename_i hw; cases hl; exact ⟨j, q, rfl, hj2, hq, Or.inr ⟨hw, rfl⟩⟩
          · cases hl
  refine ev_if_lt (tgt := 18) d_Model_fieldByte_9 (by decide) (fun c_9 => ?_) (fun c_9 => ?_)
  · refine ev_iconst (v := (-1)) d_Model_fieldByte_18 (by decide) ?_
    refine ev_iret d_Model_fieldByte_19 rfl ?_
    refine ⟨_, rfl, ?_, rfl⟩
    unfold oB
    split
    · rfl
    · rw [rg_neg c_9]
  · refine ev_iload_n d_Model_fieldByte_12 rfl rfl ?_
    refine ev_iload d_Model_fieldByte_13 rfl ?_
    refine ev_icmp_lt (tgt := 20) d_Model_fieldByte_15 (by decide) (fun c_15 => ?_) (fun c_15 => ?_)
    · cases hl : fdt F f w with
      | none =>
        rw [hl] at c_15
        exact absurd c_15 (fun z => c_9 (Int32.lt_trans z (by decide)))
      | some l =>
        obtain ⟨j, q, rfl, hj, hq, hw⟩ := hlen l hl
        obtain ⟨na, va, r3, r5, b1, b2, n1, n2⟩ := flds_name hF hq
        rw [hl] at c_15
        obtain ⟨i, hi, rfl⟩ := nI_of c_9
        have hll : l.length ≤ 1501 := by rcases hw with ⟨-, rfl⟩ | ⟨-, rfl⟩ <;> omega
        have hil : i < l.length := (nI_ltI hi (by omega)).mp c_15
        have hin : vp_in (nI j) 40 := vp_in_nI (by omega) (by decide)
        refine ev_aload_n d_Model_fieldByte_20 rfl rfl ?_
        refine mo_get (fa_Model_28 rfl rfl) d_Model_fieldByte_21 rfl ?_
        refine ev_iload_n d_Model_fieldByte_24 rfl rfl ?_
        rcases hw with ⟨rfl, rfl⟩ | ⟨rfl, rfl⟩
        · refine ev_if_ne (tgt := 37) d_Model_fieldByte_25 (by decide) (fun c_25 => ?_) (fun c_25 => ?_)
          · exact absurd rfl c_25
          · refine ev_aload_n d_Model_fieldByte_28 rfl rfl ?_
            refine mo_get (fa_Model_16 rfl rfl) d_Model_fieldByte_29 rfl ?_
            refine ev_iload_n d_Model_fieldByte_32 rfl rfl ?_
            refine mo_ald hT d_Model_fieldByte_33 (by decide) hin ?_
            refine ev_goto (tgt := 43) d_Model_fieldByte_34 (by decide) ?_
            rw [nI_clamp (by omega), r3]
            have hin7 : vp_in (nI na + nI i) (mo_len 7) := by rw [nI_add]; exact vp_in_nI (show na + i < 1600 by omega) (by decide)
            refine ev_iload_n d_Model_fieldByte_43 rfl rfl ?_
            refine ev_iadd d_Model_fieldByte_44 ?_
            refine mo_ald hT d_Model_fieldByte_45 (by decide) hin7 ?_
            refine ev_iret d_Model_fieldByte_46 rfl ?_
            refine ⟨_, rfl, ?_, rfl⟩
            rw [nI_add, nI_clamp (by omega)]
            show _ = Value.int (rg q.1 (nI i))
            rw [rg_nat hi, List.getD_eq_getElem?_getD, hol_at n1 hil]
            rfl
        · refine ev_if_ne (tgt := 37) d_Model_fieldByte_25 (by decide) (fun c_25 => ?_) (fun c_25 => ?_)
          · refine ev_aload_n d_Model_fieldByte_37 rfl rfl ?_
            refine mo_get (fa_Model_22 rfl rfl) d_Model_fieldByte_38 rfl ?_
            refine ev_iload_n d_Model_fieldByte_41 rfl rfl ?_
            refine mo_ald hT d_Model_fieldByte_42 (by decide) hin ?_
            rw [nI_clamp (by omega), r5]
            have hin7 : vp_in (nI va + nI i) (mo_len 7) := by rw [nI_add]; exact vp_in_nI (show va + i < 1600 by omega) (by decide)
            refine ev_iload_n d_Model_fieldByte_43 rfl rfl ?_
            refine ev_iadd d_Model_fieldByte_44 ?_
            refine mo_ald hT d_Model_fieldByte_45 (by decide) hin7 ?_
            refine ev_iret d_Model_fieldByte_46 rfl ?_
            refine ⟨_, rfl, ?_, rfl⟩
            rw [nI_add, nI_clamp (by omega)]
            show _ = Value.int (rg q.2 (nI i))
            rw [rg_nat hi, List.getD_eq_getElem?_getD, hol_at n2 hil]
            rfl
          · exact absurd c_25 (by decide)
    · refine ev_iconst (v := (-1)) d_Model_fieldByte_18 (by decide) ?_
      refine ev_iret d_Model_fieldByte_19 rfl ?_
      refine ⟨_, rfl, ?_, rfl⟩
      cases hl : fdt F f w with
      | none => rfl
      | some l =>
        obtain ⟨j, q, rfl, hj, hq, hw⟩ := hlen l hl
        obtain ⟨na, va, r3, r5, b1, b2, n1, n2⟩ := flds_name hF hq
        have hll : l.length ≤ 1501 := by rcases hw with ⟨-, rfl⟩ | ⟨-, rfl⟩ <;> omega
        rw [hl] at c_15
        show _ = Value.int (rg l k)
        rw [rg_big c_9 (Int32.not_lt.mp c_15) (by omega)]
theorem l_Model_find0 {n f : Nat} {y : Int32} {Z : Option Value → hp_T → Prop} (K : ev_E G m_Model_find 96 [(0, .ref M), (1, .int (nI n)), (2, .int (nI f)), (3, .int 0), (4, .int y)] [] (mo_ov cI cZ h0 M I R) Z) : ev_E G m_Model_find 44 [(0, .ref M), (1, .int (nI n)), (2, .int (nI f)), (3, .int 0), (4, .int y)] [] (mo_ov cI cZ h0 M I R) Z := by
  refine ev_iload d_Model_find_44 rfl ?_
  refine ev_iload_n d_Model_find_46 rfl rfl ?_
  refine ev_icmp_ge (tgt := 96) d_Model_find_47 (by decide) (fun c_47 => ?_) (fun c_47 => ?_)
  · exact K
  · refine ev_iload_n d_Model_find_50 rfl rfl ?_
    refine ev_if_eq (tgt := 96) d_Model_find_51 (by decide) (fun c_51 => ?_) (fun c_51 => ?_)
    · exact K
    · exact absurd rfl c_51
theorem l_Model_find1 (hT : (gl_t G)[0]? = some (cI, .int)) {n f na : Nat} (hn : n ≤ 1500) (hf : f < 40) (hna : R 3 f = nI na) {Z : Option Value → hp_T → Prop} : ∀ (a t : List Int32) (k : Nat), a.length = t.length → hol (R 7) (na + k) a → hol (R 2) k t → k + t.length = n → na + n ≤ 1600 →
    (∀ y : Int32, ev_E G m_Model_find 96 [(0, .ref M), (1, .int (nI n)), (2, .int (nI f)), (3, .int (bI (eqS a t))), (4, .int y)] [] (mo_ov cI cZ h0 M I R) Z) →
    ev_E G m_Model_find 44 [(0, .ref M), (1, .int (nI n)), (2, .int (nI f)), (3, .int 1), (4, .int (nI k))] [] (mo_ov cI cZ h0 M I R) Z := by
  intro a
  induction a with
  | nil =>
    intro t k hl h7 h2 hk hna2 K
    have ht : t = [] := List.length_eq_zero_iff.mp hl.symm
    subst ht
    refine ev_iload d_Model_find_44 rfl ?_
    refine ev_iload_n d_Model_find_46 rfl rfl ?_
    refine ev_icmp_ge (tgt := 96) d_Model_find_47 (by decide) (fun c_47 => ?_) (fun c_47 => ?_)
    · exact K (nI k)
    · exact absurd (nI_le (a := n) (b := k) (by simp at hk; omega) (by simp at hk; omega)) c_47
  | cons x a ih =>
    intro t k hl h7 h2 hk hna2 K
    cases t with
    | nil => simp at hl
    | cons y t =>
      simp only [List.length_cons] at hl hk
      obtain ⟨hx, ha⟩ := hol_cons h7
      obtain ⟨hy, ht⟩ := hol_cons h2
      have hinf : vp_in (nI f) (mo_len 3) := vp_in_nI (show f < 40 by omega) (by decide)
      have hink : vp_in (nI k) (mo_len 2) := vp_in_nI (show k < 1500 by omega) (by decide)
      have hin7 : vp_in (nI na + nI k) (mo_len 7) := by rw [nI_add]; exact vp_in_nI (show na + k < 1600 by omega) (by decide)
      refine ev_iload d_Model_find_44 rfl ?_
      refine ev_iload_n d_Model_find_46 rfl rfl ?_
      refine ev_icmp_ge (tgt := 96) d_Model_find_47 (by decide) (fun c_47 => ?_) (fun c_47 => ?_)
      · exact absurd c_47 (nI_ge (a := k) (b := n) (by omega) (by omega))
      · refine ev_iload_n d_Model_find_50 rfl rfl ?_
        refine ev_if_eq (tgt := 96) d_Model_find_51 (by decide) (fun c_51 => ?_) (fun c_51 => ?_)
        · exact absurd c_51 (by decide)
        · refine ev_aload_n d_Model_find_54 rfl rfl ?_
          refine mo_get (fa_Model_28 rfl rfl) d_Model_find_55 rfl ?_
          refine ev_aload_n d_Model_find_58 rfl rfl ?_
          refine mo_get (fa_Model_16 rfl rfl) d_Model_find_59 rfl ?_
          refine ev_iload_n d_Model_find_62 rfl rfl ?_
          refine mo_ald hT d_Model_find_63 (by decide) hinf ?_
          rw [nI_clamp (n := f) (by omega), hna]
          refine ev_iload d_Model_find_64 rfl ?_
          refine ev_iadd d_Model_find_66 ?_
          refine mo_ald hT d_Model_find_67 (by decide) hin7 ?_
          rw [nI_add, nI_clamp (n := na + k) (by omega), hx]
          refine ev_Sv [.int x] [] ca_Model_find_133 d_Model_find_68 rfl (Nat.le_of_ble_eq_true rfl) (c_Model_small x) ?_
          refine ev_aload_n d_Model_find_71 rfl rfl ?_
          refine mo_get (fa_Model_13 rfl rfl) d_Model_find_72 rfl ?_
          refine ev_iload d_Model_find_75 rfl ?_
          refine mo_ald hT d_Model_find_77 (by decide) hink ?_
          rw [nI_clamp (n := k) (by omega), hy]
          refine ev_Sv [.int y] [.int (sp_small x)] ca_Model_find_133 d_Model_find_78 rfl (Nat.le_of_ble_eq_true rfl) (c_Model_small y) ?_
          refine ev_icmp_ne (tgt := 88) d_Model_find_81 (by decide) (fun c_81 => ?_) (fun c_81 => ?_)
          · refine ev_iconst (v := 0) d_Model_find_88 (by decide) ?_
            refine ev_istore_n d_Model_find_89 rfl (by decide) ?_
            refine ev_iinc d_Model_find_90 rfl (by decide) ?_
            refine ev_goto (tgt := 44) d_Model_find_93 (by decide) ?_
            refine ev_as [(0, .ref M), (1, .int (nI n)), (2, .int (nI f)), (3, .int 0), (4, .int (nI k + 1))] ⟨rfl, rfl, rfl, rfl, rfl, trivial⟩ ?_
            refine l_Model_find0 ?_
            have e : eqS (x :: a) (y :: t) = false := by
              show (decide _ && _) = false
              rw [decide_eq_false c_81]
              rfl
            have k9 := K (nI k + 1)
            rw [e] at k9
            exact k9
          · refine ev_iconst (v := 1) d_Model_find_84 (by decide) ?_
            refine ev_goto (tgt := 89) d_Model_find_85 (by decide) ?_
            refine ev_istore_n d_Model_find_89 rfl (by decide) ?_
            refine ev_iinc d_Model_find_90 rfl (by decide) ?_
            refine ev_goto (tgt := 44) d_Model_find_93 (by decide) ?_
            refine ev_as [(0, .ref M), (1, .int (nI n)), (2, .int (nI f)), (3, .int 1), (4, .int (nI (k + 1)))] ⟨rfl, rfl, rfl, rfl, ?_, trivial⟩ (ih t (k + 1) (by omega) (by rw [← Nat.add_assoc]; exact ha) ht (by omega) hna2 ?_)
            · show some (Value.int (nI k + 1)) = _
              rw [nI_succ]
            · have e : eqS (x :: a) (y :: t) = eqS a t := by
                show (decide _ && _) = _
                rw [decide_eq_true c_81]
                rfl
              rw [e] at K
              exact K
theorem l_Model_find (hT : (gl_t G)[0]? = some (cI, .int)) (hF : flds F R) (hI : I 4 = nI F.length) (hF40 : F.length ≤ 40) (hk : (fK F).length ≤ 1501) {T : List Int32} (hn : T.length ≤ 1500) (hh : hol (R 2) 0 T) : ∀ (Q : Flds) (f : Nat), f + Q.length = F.length → F.drop f = Q →
    ev_E G m_Model_find 17 [(0, .ref M), (1, .int (nI T.length)), (2, .int (nI f))] [] (mo_ov cI cZ h0 M I R) (cr (fun v h' => v = .int (fnd T Q f) ∧ h' = mo_ov cI cZ h0 M I R)) := by
  intro Q
  induction Q with
  | nil =>
    intro f hf hd
    refine ev_iload_n d_Model_find_17 rfl rfl ?_
    refine ev_aload_n d_Model_find_18 rfl rfl ?_
    refine mo_get (fa_Model_116 rfl rfl) d_Model_find_19 rfl ?_
    rw [hI]
    refine ev_icmp_ge (tgt := 108) d_Model_find_22 (by decide) (fun c_22 => ?_) (fun c_22 => ?_)
    · refine ev_iconst (v := (-1)) d_Model_find_108 (by decide) ?_
      refine ev_iret d_Model_find_109 rfl ?_
      exact ⟨_, rfl, rfl, rfl⟩
    · exact absurd (nI_le (by simp at hf; omega) (by simp at hf; omega)) c_22
  | cons q Q ih =>
    intro f hf hd
    simp only [List.length_cons] at hf
    have hq : F[f]? = some q := by
      have := congrArg (fun l => l[0]?) hd
      simpa using this
    have hd2 : F.drop (f + 1) = Q := by
      have := congrArg (fun l => l.drop 1) hd
      simpa [List.drop_drop, Nat.add_comm] using this
    obtain ⟨na, va, r3, r5, b1, b2, n1, n2⟩ := flds_name hF hq
    have r4 := (hF.2 f q hq).2.1
    have hinf : vp_in (nI f) (mo_len 4) := vp_in_nI (show f < 40 by omega) (by decide)
    have last : ∀ y : Int32, ev_E G m_Model_find 96 [(0, .ref M), (1, .int (nI T.length)), (2, .int (nI f)), (3, .int (bI (eqS q.1 T))), (4, .int y)] [] (mo_ov cI cZ h0 M I R) (cr (fun v h' => v = .int (fnd T (q :: Q) f) ∧ h' = mo_ov cI cZ h0 M I R)) := by
      intro y
      refine ev_iload_n d_Model_find_96 rfl rfl ?_
      refine ev_if_eq (tgt := 102) d_Model_find_97 (by decide) (fun c_97 => ?_) (fun c_97 => ?_)
      · have e : eqS q.1 T = false := by
          cases he : eqS q.1 T with
          | false => rfl
          | true => rw [he] at c_97; exact absurd c_97 (by decide)
        refine ev_iinc d_Model_find_102 rfl (by decide) ?_
        refine ev_goto (tgt := 17) d_Model_find_105 (by decide) ?_
        have ef : fnd T (q :: Q) f = fnd T Q (f + 1) := by
          show (if _ then _ else _) = _
          rw [if_neg (by rw [e]; decide)]
        rw [ef]
        refine ev_as [(0, .ref M), (1, .int (nI T.length)), (2, .int (nI (f + 1)))] ⟨rfl, rfl, ?_, trivial⟩ (ih (f + 1) (by omega) hd2)
        show some (Value.int (nI f + 1)) = _
        rw [nI_succ]
      · have e : eqS q.1 T = true := by
          cases he : eqS q.1 T with
          | true => rfl
          | false => rw [he] at c_97; exact absurd rfl c_97
        refine ev_iload_n d_Model_find_100 rfl rfl ?_
        refine ev_iret d_Model_find_101 rfl ?_
        have ef : fnd T (q :: Q) f = nI f := by
          show (if _ then _ else _) = _
          rw [if_pos e]
        rw [ef]
        exact ⟨_, rfl, rfl, rfl⟩
    refine ev_iload_n d_Model_find_17 rfl rfl ?_
    refine ev_aload_n d_Model_find_18 rfl rfl ?_
    refine mo_get (fa_Model_116 rfl rfl) d_Model_find_19 rfl ?_
    rw [hI]
    refine ev_icmp_ge (tgt := 108) d_Model_find_22 (by decide) (fun c_22 => ?_) (fun c_22 => ?_)
    · exact absurd c_22 (nI_ge (a := f) (b := F.length) (by omega) (by omega))
    · refine ev_aload_n d_Model_find_25 rfl rfl ?_
      refine mo_get (fa_Model_19 rfl rfl) d_Model_find_26 rfl ?_
      refine ev_iload_n d_Model_find_29 rfl rfl ?_
      refine mo_ald hT d_Model_find_30 (by decide) hinf ?_
      refine ev_iload_n d_Model_find_31 rfl rfl ?_
      rw [nI_clamp (by omega), r4]
      refine ev_icmp_ne (tgt := 39) d_Model_find_32 (by decide) (fun c_32 => ?_) (fun c_32 => ?_)
      · have hne : ¬ q.1.length = T.length := fun z => c_32 (by rw [z])
        refine ev_iconst (v := 0) d_Model_find_39 (by decide) ?_
        refine ev_istore_n d_Model_find_40 rfl (by decide) ?_
        refine ev_iconst (v := 0) d_Model_find_41 (by decide) ?_
        refine ev_istore d_Model_find_42 (by decide) ?_
        refine ev_as [(0, .ref M), (1, .int (nI T.length)), (2, .int (nI f)), (3, .int 0), (4, .int 0)] ⟨rfl, rfl, rfl, rfl, rfl, trivial⟩ ?_
        refine l_Model_find0 ?_
        have e : eqS q.1 T = false := by
          cases he : eqS q.1 T with
          | false => rfl
          | true => exact absurd (eqS_len _ _ he) hne
        have k9 := last 0
        rw [e] at k9
        exact k9
      · have heq : q.1.length = T.length := (nI_eq (by omega) (by omega)).mp c_32
        refine ev_iconst (v := 1) d_Model_find_35 (by decide) ?_
        refine ev_goto (tgt := 40) d_Model_find_36 (by decide) ?_
        refine ev_istore_n d_Model_find_40 rfl (by decide) ?_
        refine ev_iconst (v := 0) d_Model_find_41 (by decide) ?_
        refine ev_istore d_Model_find_42 (by decide) ?_
        refine ev_as [(0, .ref M), (1, .int (nI T.length)), (2, .int (nI f)), (3, .int 1), (4, .int (nI 0))] ⟨rfl, rfl, rfl, rfl, rfl, trivial⟩ ?_
        exact l_Model_find1 hT hn (by omega) r3 q.1 T 0 heq n1 hh (Nat.zero_add _) (by omega) last
theorem c_Model_find (hT : (gl_t G)[0]? = some (cI, .int)) (hF : flds F R) (hI : I 4 = nI F.length) (hF40 : F.length ≤ 40) (hk : (fK F).length ≤ 1501) {T : List Int32} (hn : T.length ≤ 1500) (hI3 : I 3 = nI T.length) (hh : hol (R 2) 0 T) : ct_E G m_Model_find [.ref M] (mo_ov cI cZ h0 M I R) (cr (fun v h' => v = .int (fnd T F 0) ∧ h' = mo_ov cI cZ h0 M (upd (upd I 0 0) 3 0) R)) := by
  refine ct_of (ws' := tb_all) rfl rfl (Nat.le_of_ble_eq_true rfl) ?_
  refine ev_aload_n d_Model_find_0 rfl rfl ?_
  refine ev_iconst (v := 0) d_Model_find_1 (by decide) ?_
  refine mo_put (fp_Model_99 rfl rfl) d_Model_find_2 (Nat.le_of_ble_eq_true rfl) rfl rfl rfl ?_
  refine ev_aload_n d_Model_find_5 rfl rfl ?_
  refine mo_get (fa_Model_106 rfl rfl) d_Model_find_6 rfl ?_
  refine ev_istore_n d_Model_find_9 rfl (by decide) ?_
  refine ev_aload_n d_Model_find_10 rfl rfl ?_
  refine ev_iconst (v := 0) d_Model_find_11 (by decide) ?_
  refine mo_put (fp_Model_106 rfl rfl) d_Model_find_12 (Nat.le_of_ble_eq_true rfl) rfl rfl rfl ?_
  refine ev_iconst (v := 0) d_Model_find_15 (by decide) ?_
  refine ev_istore_n d_Model_find_16 rfl (by decide) ?_
  rw [show (upd I 0 0) 3 = nI T.length from hI3]
  refine ev_as [(0, .ref M), (1, .int (nI T.length)), (2, .int (nI 0))] ⟨rfl, rfl, rfl, trivial⟩ ?_
  exact l_Model_find (I := upd (upd I 0 0) 3 0) hT hF hI hF40 hk hn hh F 0 (Nat.zero_add _) rfl
end FIND
