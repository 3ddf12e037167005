/-! the reference as a whole: what its cells hold, and what each call makes of it -/
/-- B ready, T on the tape, the fields F, bd bad lines, the parts P, groups gs, parameters Q, the parameter in hand -/
def mI (B T : List Int32) (F : Flds) (bd : Nat) (P : Pts) (gs : List Int32) (Q : List Prm) (hd ch : Option (List Int32)) (I : Nat → Int32) (R : Nat → Nat → Int32) : Prop :=
  (B.length = 20 ∧ hol (R 1) 0 B) ∧ (T.length ≤ 1500 ∧ I 3 = nI T.length ∧ hol (R 2) 0 T) ∧ (flds F R ∧ I 4 = nI F.length ∧ F.length ≤ 40 ∧ (fK F).length ≤ 1501) ∧ I 5 = nI bd ∧ ((∃ ml, pOk P ml R) ∧ hol (R 18) 0 gs ∧ gs.length = (P 1).length) ∧ pmOk Q I R ∧ (I 37 = oL hd ∧ I 38 = oL ch ∧ (∀ l, hd = some l → l.length ≤ 1600 ∧ hol (R 26) 0 l) ∧ (∀ l, ch = some l → l.length ≤ 1600 ∧ hol (R 27) 0 l))
section REF
variable {G : gl_G} {cI cZ : ClassId} {h0 : hp_T} {M : Nat} {I : Nat → Int32} {R : Nat → Nat → Int32} {B T : List Int32} {F : Flds} {bd : Nat} {P : Pts} {gs : List Int32} {Q : List Prm} {hd ch : Option (List Int32)}
/-- the reference's cells, with K of its numbers and rows -/
def mH (cI cZ : ClassId) (h0 : hp_T) (M : Nat) (K : (Nat → Int32) → (Nat → Nat → Int32) → Prop) : hp_T → Prop := fun h' => ∃ I' R', h' = mo_ov cI cZ h0 M I' R' ∧ K I' R'
theorem mI_0 {v : Int32} (H : mI B T F bd P gs Q hd ch I R) : mI B T F bd P gs Q hd ch (upd I 0 v) R := by
  obtain ⟨h1, h2, h3, h4, h5, h6, h7⟩ := H
  exact ⟨h1, h2, h3, h4, h5, pmOk_sm h6 rfl (sm_rf _ _), h7⟩
/-- numbers and rows that no part of it reads may change -/
theorem mI_sm {I' : Nat → Int32} {R' : Nat → Nat → Int32} (H : mI B T F bd P gs Q hd ch I R) (sI : sm [0, 11, 12, 18, 24, 25, 39, 40, 41, 42, 43, 44] I I') (sR : sm [8, 9, 10, 11, 12] R R') : mI B T F bd P gs Q hd ch I' R' := by
  obtain ⟨⟨b1, b2⟩, ⟨t1, t2, t3⟩, ⟨f1, f2, f3, f4⟩, h4, ⟨⟨ml, p1⟩, p2, p3⟩, h6, ⟨c1, c2, c3, c4⟩⟩ := H
  refine ⟨⟨b1, by rw [sR 1 (by decide)]; exact b2⟩, ⟨t1, by rw [sI 3 (by decide)]; exact t2, by rw [sR 2 (by decide)]; exact t3⟩, ⟨flds_R f1 (fun j j1 j2 => sR j (by simp; omega)), by rw [sI 4 (by decide)]; exact f2, f3, f4⟩, by rw [sI 5 (by decide)]; exact h4, ⟨⟨ml, pOk_R p1 (fun j j1 j2 => sR j (by simp; omega))⟩, by rw [sR 18 (by decide)]; exact p2, p3⟩, pmOk_R h6 (sI 27 (by decide)) (fun j j1 j2 => sR j (by simp; omega)), ⟨by rw [sI 37 (by decide)]; exact c1, by rw [sI 38 (by decide)]; exact c2, by rw [sR 26 (by decide)]; exact c3, by rw [sR 27 (by decide)]; exact c4⟩⟩
/-- the twenty bytes that feed makes -/
def fedV (a b c d e : Int32) (j : Nat) : Int32 := by8 (if j < 4 then a else if j < 8 then b else if j < 12 then c else if j < 16 then d else e) (nI (j % 4))
theorem fed_at (f : Nat → Int32) (a b c d e : Int32) (j : Nat) (h : j < 20) : fed f a b c d e j = fedV a b c d e j := by
  unfold fed rdy fedV
  by_cases h1 : j < 4
  · rw [if_neg (by omega), if_neg (by omega), if_neg (by omega), if_neg (by omega), if_pos (by omega), if_pos h1, show j - 0 = j % 4 by omega]
  · by_cases h2 : j < 8
    · rw [if_neg (by omega), if_neg (by omega), if_neg (by omega), if_pos (by omega), if_neg h1, if_pos h2, show j - 4 = j % 4 by omega]
    · by_cases h3 : j < 12
      · rw [if_neg (by omega), if_neg (by omega), if_pos (by omega), if_neg h1, if_neg h2, if_pos h3, show j - 8 = j % 4 by omega]
      · by_cases h4 : j < 16
        · rw [if_neg (by omega), if_pos (by omega), if_neg h1, if_neg h2, if_neg h3, if_pos h4, show j - 12 = j % 4 by omega]
        · rw [if_pos (by omega), if_neg h1, if_neg h2, if_neg h3, if_neg h4, show j - 16 = j % 4 by omega]
def fedL (a b c d e : Int32) : List Int32 := (List.range 20).map (fedV a b c d e)
theorem r_feed (hT : (gl_t G)[0]? = some (cI, .int)) (H : mI B T F bd P gs Q hd ch I R) (a b c d e : Int32) : ct_E G m_Model_feed [.ref M, .int a, .int b, .int c, .int d, .int e] (mo_ov cI cZ h0 M I R) (cn (mH cI cZ h0 M (mI (fedL a b c d e) T F bd P gs Q hd ch))) := by
  refine ct_to (c_Model_feed hT R a b c d e) ?_
  rintro o h' ⟨rfl, rfl⟩
  obtain ⟨⟨b1, b2⟩, ⟨t1, t2, t3⟩, ⟨f1, f2, f3, f4⟩, h4, ⟨⟨ml, p1⟩, p2, p3⟩, h6, ⟨c1, c2, c3, c4⟩⟩ := H
  have s1 : sm [1] R (va_up R 1 (fed (R 1) a b c d e)) := sm_up (by decide)
  refine ⟨rfl, _, _, rfl, ⟨by simp [fedL], ?_⟩, ⟨t1, t2, by rw [s1 2 (by decide)]; exact t3⟩, ⟨flds_R f1 (fun j j1 j2 => s1 j (by simp; omega)), f2, f3, f4⟩, h4, ⟨⟨ml, pOk_R p1 (fun j j1 j2 => s1 j (by simp; omega))⟩, by rw [s1 18 (by decide)]; exact p2, p3⟩, pmOk_R h6 rfl (fun j j1 j2 => s1 j (by simp; omega)), ⟨c1, c2, by rw [s1 26 (by decide)]; exact c3, by rw [s1 27 (by decide)]; exact c4⟩⟩
  rw [va_up_self]
  intro j x hx
  have hj : j < 20 := by
    have := (List.getElem?_eq_some_iff.mp hx).1
    simpa [fedL] using this
  rw [Nat.zero_add, fed_at _ _ _ _ _ _ _ hj]
  simp [fedL, hj] at hx
  exact hx
theorem r_end (hT : (gl_t G)[0]? = some (cI, .int)) (H : mI B T F bd P gs Q hd ch I R) (x : Int32) : ct_E G m_Model_end [.ref M, .int x] (mo_ov cI cZ h0 M I R) (cr (fun v h' => (¬ okE T.length x ∧ v = .int (-1) ∧ mH cI cZ h0 M (mI B T F bd P gs Q hd ch) h') ∨ ∃ m : Nat, m ≤ 20 ∧ T.length + m ≤ 1500 ∧ x = nI m ∧ v = .int (nI (T.length + m)) ∧ mH cI cZ h0 M (mI (List.replicate 20 0) (T ++ B.take m) F bd P gs Q hd ch) h')) := by
  have H0 := H
  obtain ⟨⟨b1, b2⟩, ⟨t1, t2, t3⟩, ⟨f1, f2, f3, f4⟩, h4, ⟨⟨ml, p1⟩, p2, p3⟩, h6, ⟨c1, c2, c3, c4⟩⟩ := H
  refine ct_to (c_Model_end hT R t2 t1 x) ?_
  rintro o h' ⟨v, rfl, q⟩
  rcases q with ⟨q1, rfl, rfl⟩ | ⟨m, q1, q2, q3, rfl, rfl⟩
  · exact ⟨_, rfl, Or.inl ⟨q1, rfl, _, _, rfl, mI_0 H0⟩⟩
  · refine ⟨_, rfl, Or.inr ⟨m, q1, q2, q3, rfl, _, _, rfl, ?_⟩⟩
    have s1 : sm [1, 2] R (va_up (va_up R 2 (cpr (R 2) (R 1) T.length m)) 1 (zrr (R 1) 20)) := sm_tr (sm_up (by decide)) (sm_up (by decide))
    have hl : (T ++ B.take m).length = T.length + m := by rw [List.length_append, List.length_take]; omega
    refine ⟨⟨by simp, ?_⟩, ⟨by omega, by rw [hl]; simp [upd], ?_⟩, ⟨flds_R f1 (fun j j1 j2 => s1 j (by simp; omega)), f2, f3, f4⟩, h4, ⟨⟨ml, pOk_R p1 (fun j j1 j2 => s1 j (by simp; omega))⟩, by rw [s1 18 (by decide)]; exact p2, p3⟩, pmOk_R h6 rfl (fun j j1 j2 => s1 j (by simp; omega)), ⟨c1, c2, by rw [s1 26 (by decide)]; exact c3, by rw [s1 27 (by decide)]; exact c4⟩⟩
    · rw [va_up_self]
      intro j y hy
      have hj : j < 20 := by
        have := (List.getElem?_eq_some_iff.mp hy).1
        rw [List.length_replicate] at this
        exact this
      rw [List.getElem?_replicate, if_pos hj] at hy
      cases hy
      rw [Nat.zero_add]
      exact if_pos hj
    · rw [up_ne (by decide), va_up_self]
      refine hol_app (hol_same t3 (fun j j1 j2 => if_neg (by omega))) (fun j y hy => ?_)
      have hj : j < m := by
        have := (List.getElem?_eq_some_iff.mp hy).1
        rw [List.length_take] at this
        omega
      rw [List.getElem?_take, if_pos hj] at hy
      have := b2 j y hy
      rw [Nat.zero_add] at this ⊢
      show (if T.length ≤ T.length + j ∧ T.length + j < T.length + m then R 1 (T.length + j - T.length) else _) = _
      rw [if_pos (by omega), Nat.add_sub_cancel_left]
      exact this
theorem r_bad (H : mI B T F bd P gs Q hd ch I R) : ct_E G m_Model_bad [.ref M] (mo_ov cI cZ h0 M I R) (cr (fun v h' => v = .int (nI bd) ∧ mH cI cZ h0 M (mI B T F bd P gs Q hd ch) h')) := by
  refine ct_to c_Model_bad ?_
  rintro o h' ⟨v, rfl, rfl, rfl⟩
  exact ⟨_, rfl, by rw [H.2.2.2.1], _, _, rfl, mI_0 H⟩
theorem r_read (hT : (gl_t G)[0]? = some (cI, .int)) (H : mI B T F bd P gs Q hd ch I R) : ct_E G m_Model_read [.ref M] (mo_ov cI cZ h0 M I R) (cr (fun v h' => v = .int (nI (rdS T.length T [] 0 false).1.length) ∧ mH cI cZ h0 M (mI B [] (rdS T.length T [] 0 false).1 (rdS T.length T [] 0 false).2 P gs Q hd ch) h')) := by
  obtain ⟨⟨b1, b2⟩, ⟨t1, t2, t3⟩, ⟨f1, f2, f3, f4⟩, h4, ⟨⟨ml, p1⟩, p2, p3⟩, h6, ⟨c1, c2, c3, c4⟩⟩ := H
  refine ct_to (c_Model_read hT t1 t2 t3) ?_
  rintro o h' ⟨v, rfl, q0, q1, q2, q3, R', rfl, q4, q5⟩
  exact ⟨_, rfl, q0, _, _, rfl, ⟨b1, by rw [q5 1 (by decide) (by decide) (by decide) (by decide) (by decide)]; exact b2⟩, ⟨by decide, rfl, hol_nil _ _⟩, ⟨q4, rfl, q1, q2⟩, rfl, ⟨⟨ml, pOk_R p1 (fun j j1 j2 => q5 j (by omega) (by omega) (by omega) (by omega) (by omega))⟩, by rw [q5 18 (by decide) (by decide) (by decide) (by decide) (by decide)]; exact p2, p3⟩, pmOk_R h6 rfl (fun j j1 j2 => q5 j (by omega) (by omega) (by omega) (by omega) (by omega)), ⟨c1, c2, by rw [q5 26 (by decide) (by decide) (by decide) (by decide) (by decide)]; exact c3, by rw [q5 27 (by decide) (by decide) (by decide) (by decide) (by decide)]; exact c4⟩⟩
theorem r_find (hT : (gl_t G)[0]? = some (cI, .int)) (H : mI B T F bd P gs Q hd ch I R) : ct_E G m_Model_find [.ref M] (mo_ov cI cZ h0 M I R) (cr (fun v h' => v = .int (fnd T F 0) ∧ mH cI cZ h0 M (mI B [] F bd P gs Q hd ch) h')) := by
  obtain ⟨⟨b1, b2⟩, ⟨t1, t2, t3⟩, ⟨f1, f2, f3, f4⟩, h4, h5, h6, h7⟩ := H
  refine ct_to (c_Model_find hT f1 f2 f3 f4 t1 t2 t3) ?_
  rintro o h' ⟨v, rfl, rfl, rfl⟩
  exact ⟨_, rfl, rfl, _, _, rfl, ⟨b1, b2⟩, ⟨by decide, rfl, hol_nil _ _⟩, ⟨f1, f2, f3, f4⟩, h4, h5, pmOk_sm h6 rfl (sm_rf _ _), h7⟩
theorem r_field (hT : (gl_t G)[0]? = some (cI, .int)) (H : mI B T F bd P gs Q hd ch I R) (f w : Int32) : ct_E G m_Model_field [.ref M, .int f, .int w] (mo_ov cI cZ h0 M I R) (cr (fun v h' => v = .int (oL (fdt F f w)) ∧ mH cI cZ h0 M (mI B T F bd P gs Q hd ch) h')) := by
  refine ct_to (c_Model_field hT H.2.2.1.1 H.2.2.1.2.1 H.2.2.1.2.2.1 f w) ?_
  rintro o h' ⟨v, rfl, rfl, rfl⟩
  exact ⟨_, rfl, rfl, _, _, rfl, mI_0 H⟩
theorem r_fieldByte (hT : (gl_t G)[0]? = some (cI, .int)) (H : mI B T F bd P gs Q hd ch I R) (f w i : Int32) : ct_E G m_Model_fieldByte [.ref M, .int f, .int w, .int i] (mo_ov cI cZ h0 M I R) (cr (fun v h' => v = .int (oB (fdt F f w) i) ∧ mH cI cZ h0 M (mI B T F bd P gs Q hd ch) h')) := by
  refine ct_to (c_Model_fieldByte hT H.2.2.1.1 H.2.2.1.2.1 H.2.2.1.2.2.1 H.2.2.1.2.2.2 f w i) ?_
  rintro o h' ⟨v, rfl, rfl, rfl⟩
  exact ⟨_, rfl, rfl, _, _, rfl, mI_0 H⟩
theorem r_length (hT : (gl_t G)[0]? = some (cI, .int)) (H : mI B T F bd P gs Q hd ch I R) (w k : Int32) : ct_E G m_Model_length [.ref M, .int w, .int k] (mo_ov cI cZ h0 M I R) (cr (fun v h' => v = .int (oL (prt P w k)) ∧ mH cI cZ h0 M (mI B T F bd P gs Q hd ch) h')) := by
  obtain ⟨ml, p1⟩ := H.2.2.2.2.1.1
  refine ct_to (c_Model_length hT p1 w k) ?_
  rintro o h' ⟨v, rfl, rfl, rfl⟩
  exact ⟨_, rfl, rfl, _, _, rfl, mI_0 H⟩
theorem r_at (hT : (gl_t G)[0]? = some (cI, .int)) (H : mI B T F bd P gs Q hd ch I R) (w k i : Int32) : ct_E G m_Model_at [.ref M, .int w, .int k, .int i] (mo_ov cI cZ h0 M I R) (cr (fun v h' => v = .int (oB (prt P w k) i) ∧ mH cI cZ h0 M (mI B T F bd P gs Q hd ch) h')) := by
  obtain ⟨ml, p1⟩ := H.2.2.2.2.1.1
  refine ct_to (c_Model_at hT p1 w k i) ?_
  rintro o h' ⟨v, rfl, rfl, rfl⟩
  exact ⟨_, rfl, rfl, _, _, rfl, mI_0 H⟩
theorem r_group (hT : (gl_t G)[0]? = some (cI, .int)) (H : mI B T F bd P gs Q hd ch I R) (w k : Int32) : ct_E G m_Model_group [.ref M, .int w, .int k] (mo_ov cI cZ h0 M I R) (cr (fun v h' => v = .int (if w = 0 then I 24 else if w = 1 then I 25 else if w = 2 then rg gs k else -1) ∧ h' = mo_ov cI cZ h0 M (upd I 0 0) R ∧ mI B T F bd P gs Q hd ch (upd I 0 0) R)) := by
  obtain ⟨⟨ml, p1⟩, p2, p3⟩ := H.2.2.2.2.1
  refine ct_to (c_Model_group hT p1 p2 p3 w k) ?_
  rintro o h' ⟨v, rfl, rfl, rfl⟩
  exact ⟨_, rfl, rfl, rfl, mI_0 H⟩
theorem r_parameterByte (hT : (gl_t G)[0]? = some (cI, .int)) (H : mI B T F bd P gs Q hd ch I R) (b : Bool) (i : Int32) : ct_E G m_Model_parameterByte [.ref M, .int (bI b), .int i] (mo_ov cI cZ h0 M I R) (cr (fun v h' => v = .int (oB (if b = true then ch else hd) i) ∧ mH cI cZ h0 M (mI B T F bd P gs Q hd ch) h')) := by
  obtain ⟨c1, c2, c3, c4⟩ := H.2.2.2.2.2.2
  refine ct_to (c_Model_parameterByte hT c1 c2 c3 c4 b i) ?_
  rintro o h' ⟨v, rfl, rfl, rfl⟩
  exact ⟨_, rfl, rfl, _, _, rfl, mI_0 H⟩
theorem r_parameter (hT : (gl_t G)[0]? = some (cI, .int)) (hZ : (gl_t G)[1]? = some (cZ, .boolean)) (H : mI B T F bd P gs Q hd ch I R) : ct_E G m_Model_parameter [.ref M] (mo_ov cI cZ h0 M I R) (cr (fun v h' => v = .int (oL ((hdOf T Q).map (fun x => x.1))) ∧ mH cI cZ h0 M (mI B [] F bd P gs Q ((hdOf T Q).map (fun x => x.1)) ((hdOf T Q).map (fun x => x.2))) h')) := by
  obtain ⟨⟨b1, b2⟩, ⟨t1, t2, t3⟩, ⟨f1, f2, f3, f4⟩, h4, ⟨⟨ml, p1⟩, p2, p3⟩, h6, ⟨c1, c2, c3, c4⟩⟩ := H
  refine ct_to (c_Model_parameter hT hZ h6 t1 t2 t3) ?_
  rintro o h' ⟨v, rfl, q0, R', rfl, q1, q2⟩
  refine ⟨_, rfl, q0, _, _, rfl, ⟨b1, by rw [q2 1 (by decide)]; exact b2⟩, ⟨by decide, rfl, hol_nil _ _⟩, ⟨flds_R f1 (fun j j1 j2 => q2 j (by simp; omega)), f2, f3, f4⟩, h4, ⟨⟨ml, pOk_R p1 (fun j j1 j2 => q2 j (by simp; omega))⟩, by rw [q2 18 (by decide)]; exact p2, p3⟩, pmOk_sm h6 rfl q2, ⟨rfl, rfl, fun l hx => ?_, fun l hx => ?_⟩⟩
  · cases hH : hdOf T Q with
    | none => rw [hH] at hx; cases hx
    | some x =>
      rw [hH] at hx
      cases hx
      exact ⟨(q1 x.1 x.2 hH).1, (q1 x.1 x.2 hH).2.2.1⟩
  · cases hH : hdOf T Q with
    | none => rw [hH] at hx; cases hx
    | some x =>
      rw [hH] at hx
      cases hx
      exact ⟨(q1 x.1 x.2 hH).2.1, (q1 x.1 x.2 hH).2.2.2⟩
/-- the throwing calls: of no field they note it, of a field they don't -/
theorem r_date (hT : (gl_t G)[0]? = some (cI, .int)) (H : mI B T F bd P gs Q hd ch I R) (f : Int32) : ct_E G m_Model_date [.ref M, .int f] (mo_ov cI cZ h0 M I R) (cr (fun v h' => ∃ (x : Int64) (I' : Nat → Int32) (R' : Nat → Nat → Int32), v = .long x ∧ h' = mo_ov cI cZ h0 M I' R' ∧ mI B T F bd P gs Q hd ch I' R' ∧ (sp_isField (nI F.length) f = 0 ∧ I' 0 = 1 ∨ ¬ sp_isField (nI F.length) f = 0 ∧ I' 0 = 0))) := by
  have hf := H.2.2.1
  refine ct_to (c_Model_date hT hf.1 hf.2.1 hf.2.2.1 hf.2.2.2 f) ?_
  rintro o h' ⟨v, rfl, q⟩
  rcases q with ⟨q1, rfl, rfl⟩ | ⟨j, q, rfl, q2, ⟨x, rfl⟩, I', R', rfl, q3, q4, q5⟩
  · exact ⟨_, rfl, 0, _, R, rfl, rfl, mI_0 H, Or.inl ⟨q1, rfl⟩⟩
  · refine ⟨_, rfl, x, I', R', rfl, rfl, mI_sm H (sm_mono q4 (by decide)) q5, Or.inr ⟨?_, q3⟩⟩
    have hj := (List.getElem?_eq_some_iff.mp q2).1
    have h40 := hf.2.2.1
    rw [show sp_isField (nI F.length) (nI j) = 1 from if_pos ⟨nI_pos (by omega), fun z => by have := (nI_leI (by omega) (by omega)).mp z; omega⟩]
    decide
theorem isF_yes {j : Nat} {q : List Int32 × List Int32} (h40 : F.length ≤ 40) (h : F[j]? = some q) : ¬ sp_isField (nI F.length) (nI j) = 0 := by
  have hj := (List.getElem?_eq_some_iff.mp h).1
  rw [show sp_isField (nI F.length) (nI j) = 1 from if_pos ⟨nI_pos (by omega), fun z => by have := (nI_leI (by omega) (by omega)).mp z; omega⟩]
  decide
theorem r_addresses (hT : (gl_t G)[0]? = some (cI, .int)) (H : mI B T F bd P gs Q hd ch I R) (f : Int32) : ct_E G m_Model_addresses [.ref M, .int f] (mo_ov cI cZ h0 M I R) (cr (fun v h' => ∃ (x : Int32) (P' : Pts) (gs' : List Int32) (I' : Nat → Int32) (R' : Nat → Nat → Int32), v = .int x ∧ h' = mo_ov cI cZ h0 M I' R' ∧ mI B T F bd P' gs' Q hd ch I' R' ∧ (∀ w, 4 ≤ w → P' w = P w) ∧ (sp_isField (nI F.length) f = 0 ∧ I' 0 = 1 ∧ P' = P ∧ gs' = gs ∧ I' 24 = I 24 ∧ I' 25 = I 25 ∨ ¬ sp_isField (nI F.length) f = 0 ∧ I' 0 = 0))) := by
  have H0 := H
  obtain ⟨⟨b1, b2⟩, ⟨t1, t2, t3⟩, ⟨f1, f2, f3, f4⟩, h4, ⟨⟨ml, p1⟩, p2, p3⟩, h6, ⟨c1, c2, c3, c4⟩⟩ := H
  refine ct_to (c_Model_addresses hT f1 f2 f3 f4 p1 f) ?_
  rintro o h' ⟨v, rfl, q⟩
  rcases q with ⟨q1, rfl, rfl⟩ | ⟨j, q, rfl, q2, P', ml', gs', I', R', rfl, rfl, g1, g2, g3, g4, g5, g6, g7⟩
  · exact ⟨_, rfl, 0, P, gs, _, R, rfl, rfl, mI_0 H0, fun _ _ => rfl, Or.inl ⟨q1, rfl, rfl, rfl, rfl, rfl⟩⟩
  · refine ⟨_, rfl, _, P', gs', I', R', rfl, rfl, ⟨⟨b1, by rw [g7 1 (by decide)]; exact b2⟩, ⟨t1, by rw [g6 3 (by decide)]; exact t2, by rw [g7 2 (by decide)]; exact t3⟩, ⟨flds_R f1 (fun j j1 j2 => g7 j (by simp; omega)), by rw [g6 4 (by decide)]; exact f2, f3, f4⟩, by rw [g6 5 (by decide)]; exact h4, ⟨⟨ml', g1⟩, g2, g3⟩, pmOk_R h6 (g6 27 (by decide)) (fun j j1 j2 => g7 j (by simp; omega)), ⟨by rw [g6 37 (by decide)]; exact c1, by rw [g6 38 (by decide)]; exact c2, by rw [g7 26 (by decide)]; exact c3, by rw [g7 27 (by decide)]; exact c4⟩⟩, g4, Or.inr ⟨isF_yes f3 q2, g5⟩⟩
theorem r_identities (hT : (gl_t G)[0]? = some (cI, .int)) (H : mI B T F bd P gs Q hd ch I R) (f : Int32) : ct_E G m_Model_identities [.ref M, .int f] (mo_ov cI cZ h0 M I R) (cr (fun v h' => ∃ (x : Int32) (P' : Pts) (I' : Nat → Int32) (R' : Nat → Nat → Int32), v = .int x ∧ h' = mo_ov cI cZ h0 M I' R' ∧ mI B T F bd P' gs Q hd ch I' R' ∧ I' 24 = I 24 ∧ I' 25 = I 25 ∧ (sp_isField (nI F.length) f = 0 ∧ I' 0 = 1 ∧ P' = P ∨ ∃ j q, f = nI j ∧ F[j]? = some q ∧ I' 0 = 0 ∧ P' = va_up P 4 (idS q.2.length q.2) ∧ x = nI (idS q.2.length q.2).length))) := by
  have H0 := H
  obtain ⟨⟨b1, b2⟩, ⟨t1, t2, t3⟩, ⟨f1, f2, f3, f4⟩, h4, ⟨⟨ml, p1⟩, p2, p3⟩, h6, ⟨c1, c2, c3, c4⟩⟩ := H
  refine ct_to (c_Model_identities hT f1 f2 f3 f4 p1 f) ?_
  rintro o h' ⟨v, rfl, q⟩
  rcases q with ⟨q1, rfl, rfl⟩ | ⟨j, q, rfl, q2, rfl, R', m, rfl, g1, g7⟩
  · exact ⟨_, rfl, 0, P, _, R, rfl, rfl, mI_0 H0, rfl, rfl, Or.inl ⟨q1, rfl, rfl⟩⟩
  · refine ⟨_, rfl, _, _, _, R', rfl, rfl, ⟨⟨b1, by rw [g7 1 (by decide)]; exact b2⟩, ⟨t1, t2, by rw [g7 2 (by decide)]; exact t3⟩, ⟨flds_R f1 (fun j j1 j2 => g7 j (by simp; omega)), f2, f3, f4⟩, h4, ⟨⟨_, g1⟩, by rw [g7 18 (by decide)]; exact p2, by rw [up_ne (by decide)]; exact p3⟩, pmOk_R h6 rfl (fun j j1 j2 => g7 j (by simp; omega)), ⟨c1, c2, by rw [g7 26 (by decide)]; exact c3, by rw [g7 27 (by decide)]; exact c4⟩⟩, rfl, rfl, Or.inr ⟨j, q, rfl, q2, rfl, rfl, rfl⟩⟩
theorem r_type (hT : (gl_t G)[0]? = some (cI, .int)) (hZ : (gl_t G)[1]? = some (cZ, .boolean)) (H : mI B T F bd P gs Q hd ch I R) (f : Int32) : ct_E G m_Model_type [.ref M, .int f] (mo_ov cI cZ h0 M I R) (cr (fun v h' => (sp_isField (nI F.length) f = 0 ∧ v = .int 0 ∧ h' = mo_ov cI cZ h0 M (upd I 0 1) R ∧ mI B T F bd P gs Q hd ch (upd I 0 1) R) ∨ ∃ (j : Nat) (q : List Int32 × List Int32) (I' : Nat → Int32) (R' : Nat → Nat → Int32), f = nI j ∧ F[j]? = some q ∧ v = .int (bI (tyA (wcut true q.2.length q.2)).isSome) ∧ h' = mo_ov cI cZ h0 M I' R' ∧ mI B T F bd (tyPt P (tyA (wcut true q.2.length q.2))) gs (tyQs (wcut true q.2.length q.2)) none none I' R' ∧ I' 0 = 0 ∧ I' 24 = I 24 ∧ I' 25 = I 25)) := by
  have H0 := H
  obtain ⟨⟨b1, b2⟩, ⟨t1, t2, t3⟩, ⟨f1, f2, f3, f4⟩, h4, ⟨⟨ml, p1⟩, p2, p3⟩, h6, ⟨c1, c2, c3, c4⟩⟩ := H
  refine ct_to (c_Model_type hT hZ f1 f2 f3 f4 p1 f) ?_
  rintro o h' ⟨v, rfl, q⟩
  rcases q with ⟨q1, rfl, rfl⟩ | ⟨j, q, rfl, q2, rfl, I', R', ml', rfl, g1, g2, g3, g4, g5, g6, g7⟩
  · exact ⟨_, rfl, Or.inl ⟨q1, rfl, rfl, mI_0 H0⟩⟩
  · refine ⟨_, rfl, Or.inr ⟨j, q, I', R', rfl, q2, rfl, rfl, ⟨⟨b1, by rw [g7 1 (by decide)]; exact b2⟩, ⟨t1, by rw [g6 3 (by decide)]; exact t2, by rw [g7 2 (by decide)]; exact t3⟩, ⟨flds_R f1 (fun j j1 j2 => g7 j (by simp; omega)), by rw [g6 4 (by decide)]; exact f2, f3, f4⟩, by rw [g6 5 (by decide)]; exact h4, ⟨⟨ml', g1⟩, by rw [g7 18 (by decide)]; exact p2, p3⟩, g2, ⟨g4, g5, (fun l hx => by cases hx), (fun l hx => by cases hx)⟩⟩, g3, g6 24 (by decide), g6 25 (by decide)⟩⟩
/-- a new reference -/
theorem mI_new : mI (List.replicate 20 0) [] [] 0 (fun _ => []) [] [] none none mo_I0 (fun _ _ => 0) := by
  refine ⟨⟨by simp, fun j x hx => ?_⟩, ⟨by decide, rfl, hol_nil _ _⟩, ⟨flds_nil _, rfl, by decide, by decide⟩, rfl, ⟨⟨_, pOk_0⟩, hol_nil _ _, rfl⟩, ⟨rfl, by decide, by decide, fun i q hq => by simp at hq⟩, ⟨rfl, rfl, (fun l hx => by cases hx), (fun l hx => by cases hx)⟩⟩
  have hj : j < 20 := by
    have := (List.getElem?_eq_some_iff.mp hx).1
    rw [List.length_replicate] at this
    exact this
  rw [List.getElem?_replicate, if_pos hj] at hx
  cases hx
  rfl
end REF
