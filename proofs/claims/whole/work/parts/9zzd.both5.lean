/-! the reference's calls, with what they leave of the counts of groups and bad ones -/
def mH5 (cI cZ : ClassId) (h0 : hp_T) (M : Nat) (I : Nat → Int32) (K : (Nat → Int32) → (Nat → Nat → Int32) → Prop) : hp_T → Prop := fun h' => ∃ I' R', h' = mo_ov cI cZ h0 M I' R' ∧ K I' R' ∧ I' 24 = I 24 ∧ I' 25 = I 25
section REF5
variable {G : gl_G} {cI cZ : ClassId} {h0 : hp_T} {M : Nat} {I : Nat → Int32} {R : Nat → Nat → Int32} {B T : List Int32} {F : Flds} {bd : Nat} {P : Pts} {gs : List Int32} {Q : List Prm} {hd ch : Option (List Int32)}
theorem v_feed (hT : (gl_t G)[0]? = some (cI, .int)) (H : mI B T F bd P gs Q hd ch I R) (a b c d e : Int32) : ct_E G m_Model_feed [.ref M, .int a, .int b, .int c, .int d, .int e] (mo_ov cI cZ h0 M I R) (cn (mH5 cI cZ h0 M I (mI (fedL a b c d e) T F bd P gs Q hd ch))) := by
  refine ct_to (c_Model_feed hT R a b c d e) ?_
  rintro o h' ⟨rfl, rfl⟩
  obtain ⟨⟨b1, b2⟩, ⟨t1, t2, t3⟩, ⟨f1, f2, f3, f4⟩, h4, ⟨⟨ml, p1⟩, p2, p3⟩, h6, ⟨c1, c2, c3, c4⟩⟩ := H
  have s1 : sm [1] R (va_up R 1 (fed (R 1) a b c d e)) := sm_up (by decide)
  refine ⟨rfl, _, _, rfl, ⟨⟨by simp [fedL], ?_⟩, ⟨t1, t2, by rw [s1 2 (by decide)]; exact t3⟩, ⟨flds_R f1 (fun j j1 j2 => s1 j (by simp; omega)), f2, f3, f4⟩, h4, ⟨⟨ml, pOk_R p1 (fun j j1 j2 => s1 j (by simp; omega))⟩, by rw [s1 18 (by decide)]; exact p2, p3⟩, pmOk_R h6 rfl (fun j j1 j2 => s1 j (by simp; omega)), ⟨c1, c2, by rw [s1 26 (by decide)]; exact c3, by rw [s1 27 (by decide)]; exact c4⟩⟩, rfl, rfl⟩
  rw [va_up_self]
  intro j x hx
  have hj : j < 20 := by
    have := (List.getElem?_eq_some_iff.mp hx).1
    simpa [fedL] using this
  rw [Nat.zero_add, fed_at _ _ _ _ _ _ _ hj]
  simp [fedL, hj] at hx
  exact hx
theorem v_end (hT : (gl_t G)[0]? = some (cI, .int)) (H : mI B T F bd P gs Q hd ch I R) (x : Int32) : ct_E G m_Model_end [.ref M, .int x] (mo_ov cI cZ h0 M I R) (cr (fun v h' => (¬ okE T.length x ∧ v = .int (-1) ∧ mH5 cI cZ h0 M I (mI B T F bd P gs Q hd ch) h') ∨ ∃ m : Nat, m ≤ 20 ∧ T.length + m ≤ 1500 ∧ x = nI m ∧ v = .int (nI (T.length + m)) ∧ mH5 cI cZ h0 M I (mI (List.replicate 20 0) (T ++ B.take m) F bd P gs Q hd ch) h')) := by
  have H0 := H
  obtain ⟨⟨b1, b2⟩, ⟨t1, t2, t3⟩, ⟨f1, f2, f3, f4⟩, h4, ⟨⟨ml, p1⟩, p2, p3⟩, h6, ⟨c1, c2, c3, c4⟩⟩ := H
  refine ct_to (c_Model_end hT R t2 t1 x) ?_
  rintro o h' ⟨v, rfl, q⟩
  rcases q with ⟨q1, rfl, rfl⟩ | ⟨m, q1, q2, q3, rfl, rfl⟩
  · exact ⟨_, rfl, Or.inl ⟨q1, rfl, _, _, rfl, mI_0 H0, rfl, rfl⟩⟩
  · refine ⟨_, rfl, Or.inr ⟨m, q1, q2, q3, rfl, _, _, rfl, ?_, rfl, rfl⟩⟩
    have s1 : sm [1, 2] R (va_up (va_up R 2 (cpr (R 2) (R 1) T.length m)) 1 (zrr (R 1) 20)) := sm_tr (sm_up (by decide)) (sm_up (by decide))
    have hl : (T ++ B.take m).length = T.length + m := by rw [List.length_append, List.length_take]; omega
    refine ⟨⟨by simp, ?_⟩, ⟨by omega, by rw [hl]; simp [upd], ?_⟩, ⟨flds_R f1 (fun j j1 j2 => s1 j (by simp; omega)), f2, f3, f4⟩, h4, ⟨⟨ml, pOk_R p1 (fun j j1 j2 => s1 j (by simp; omega))⟩, by rw [s1 18 (by decide)]; exact p2, p3⟩, pmOk_R h6 rfl (fun j j1 j2 => s1 j (by simp; omega)), ⟨c1, c2, by rw [s1 26 (by decide)]; exact c3, by rw [s1 27 (by decide)]; exact c4⟩⟩
    · rw [va_up_self]
      intro j y hy
      have hj : j < 20 := by
        have := (List.getElem?_eq_some_iff.mp hy).1
        rw [List.length_replicate] at this
        exact this
      rw [List.getElem?_replicate, if_pos hj] at hy
      cases hy
      rw [Nat.zero_add]
      exact if_pos hj
    · rw [up_ne (by decide), va_up_self]
      refine hol_app (hol_same t3 (fun j j1 j2 => if_neg (by omega))) (fun j y hy => ?_)
      have hj : j < m := by
        have := (List.getElem?_eq_some_iff.mp hy).1
        rw [List.length_take] at this
        omega
      rw [List.getElem?_take, if_pos hj] at hy
      have := b2 j y hy
      rw [Nat.zero_add] at this ⊢
      show (if T.length ≤ T.length + j ∧ T.length + j < T.length + m then R 1 (T.length + j - T.length) else _) = _
      rw [if_pos (by omega), Nat.add_sub_cancel_left]
      exact this
theorem v_bad (H : mI B T F bd P gs Q hd ch I R) : ct_E G m_Model_bad [.ref M] (mo_ov cI cZ h0 M I R) (cr (fun v h' => v = .int (nI bd) ∧ mH5 cI cZ h0 M I (mI B T F bd P gs Q hd ch) h')) := by
  refine ct_to c_Model_bad ?_
  rintro o h' ⟨v, rfl, rfl, rfl⟩
  exact ⟨_, rfl, by rw [H.2.2.2.1], _, _, rfl, mI_0 H, rfl, rfl⟩
theorem v_read (hT : (gl_t G)[0]? = some (cI, .int)) (H : mI B T F bd P gs Q hd ch I R) : ct_E G m_Model_read [.ref M] (mo_ov cI cZ h0 M I R) (cr (fun v h' => v = .int (nI (rdS T.length T [] 0 false).1.length) ∧ mH5 cI cZ h0 M I (mI B [] (rdS T.length T [] 0 false).1 (rdS T.length T [] 0 false).2 P gs Q hd ch) h')) := by
  obtain ⟨⟨b1, b2⟩, ⟨t1, t2, t3⟩, ⟨f1, f2, f3, f4⟩, h4, ⟨⟨ml, p1⟩, p2, p3⟩, h6, ⟨c1, c2, c3, c4⟩⟩ := H
  refine ct_to (c_Model_read hT t1 t2 t3) ?_
  rintro o h' ⟨v, rfl, q0, q1, q2, q3, R', rfl, q4, q5⟩
  exact ⟨_, rfl, q0, _, _, rfl, ⟨⟨b1, by rw [q5 1 (by decide) (by decide) (by decide) (by decide) (by decide)]; exact b2⟩, ⟨by decide, rfl, hol_nil _ _⟩, ⟨q4, rfl, q1, q2⟩, rfl, ⟨⟨ml, pOk_R p1 (fun j j1 j2 => q5 j (by omega) (by omega) (by omega) (by omega) (by omega))⟩, by rw [q5 18 (by decide) (by decide) (by decide) (by decide) (by decide)]; exact p2, p3⟩, pmOk_R h6 rfl (fun j j1 j2 => q5 j (by omega) (by omega) (by omega) (by omega) (by omega)), ⟨c1, c2, by rw [q5 26 (by decide) (by decide) (by decide) (by decide) (by decide)]; exact c3, by rw [q5 27 (by decide) (by decide) (by decide) (by decide) (by decide)]; exact c4⟩⟩, rfl, rfl⟩
theorem v_find (hT : (gl_t G)[0]? = some (cI, .int)) (H : mI B T F bd P gs Q hd ch I R) : ct_E G m_Model_find [.ref M] (mo_ov cI cZ h0 M I R) (cr (fun v h' => v = .int (fnd T F 0) ∧ mH5 cI cZ h0 M I (mI B [] F bd P gs Q hd ch) h')) := by
  obtain ⟨⟨b1, b2⟩, ⟨t1, t2, t3⟩, ⟨f1, f2, f3, f4⟩, h4, h5, h6, h7⟩ := H
  refine ct_to (c_Model_find hT f1 f2 f3 f4 t1 t2 t3) ?_
  rintro o h' ⟨v, rfl, rfl, rfl⟩
  exact ⟨_, rfl, rfl, _, _, rfl, ⟨⟨b1, b2⟩, ⟨by decide, rfl, hol_nil _ _⟩, ⟨f1, f2, f3, f4⟩, h4, h5, pmOk_sm h6 rfl (sm_rf _ _), h7⟩, rfl, rfl⟩
theorem v_field (hT : (gl_t G)[0]? = some (cI, .int)) (H : mI B T F bd P gs Q hd ch I R) (f w : Int32) : ct_E G m_Model_field [.ref M, .int f, .int w] (mo_ov cI cZ h0 M I R) (cr (fun v h' => v = .int (oL (fdt F f w)) ∧ mH5 cI cZ h0 M I (mI B T F bd P gs Q hd ch) h')) := by
  refine ct_to (c_Model_field hT H.2.2.1.1 H.2.2.1.2.1 H.2.2.1.2.2.1 f w) ?_
  rintro o h' ⟨v, rfl, rfl, rfl⟩
  exact ⟨_, rfl, rfl, _, _, rfl, mI_0 H, rfl, rfl⟩
theorem v_fieldByte (hT : (gl_t G)[0]? = some (cI, .int)) (H : mI B T F bd P gs Q hd ch I R) (f w i : Int32) : ct_E G m_Model_fieldByte [.ref M, .int f, .int w, .int i] (mo_ov cI cZ h0 M I R) (cr (fun v h' => v = .int (oB (fdt F f w) i) ∧ mH5 cI cZ h0 M I (mI B T F bd P gs Q hd ch) h')) := by
  refine ct_to (c_Model_fieldByte hT H.2.2.1.1 H.2.2.1.2.1 H.2.2.1.2.2.1 H.2.2.1.2.2.2 f w i) ?_
  rintro o h' ⟨v, rfl, rfl, rfl⟩
  exact ⟨_, rfl, rfl, _, _, rfl, mI_0 H, rfl, rfl⟩
theorem v_length (hT : (gl_t G)[0]? = some (cI, .int)) (H : mI B T F bd P gs Q hd ch I R) (w k : Int32) : ct_E G m_Model_length [.ref M, .int w, .int k] (mo_ov cI cZ h0 M I R) (cr (fun v h' => v = .int (oL (prt P w k)) ∧ mH5 cI cZ h0 M I (mI B T F bd P gs Q hd ch) h')) := by
  obtain ⟨ml, p1⟩ := H.2.2.2.2.1.1
  refine ct_to (c_Model_length hT p1 w k) ?_
  rintro o h' ⟨v, rfl, rfl, rfl⟩
  exact ⟨_, rfl, rfl, _, _, rfl, mI_0 H, rfl, rfl⟩
theorem v_at (hT : (gl_t G)[0]? = some (cI, .int)) (H : mI B T F bd P gs Q hd ch I R) (w k i : Int32) : ct_E G m_Model_at [.ref M, .int w, .int k, .int i] (mo_ov cI cZ h0 M I R) (cr (fun v h' => v = .int (oB (prt P w k) i) ∧ mH5 cI cZ h0 M I (mI B T F bd P gs Q hd ch) h')) := by
  obtain ⟨ml, p1⟩ := H.2.2.2.2.1.1
  refine ct_to (c_Model_at hT p1 w k i) ?_
  rintro o h' ⟨v, rfl, rfl, rfl⟩
  exact ⟨_, rfl, rfl, _, _, rfl, mI_0 H, rfl, rfl⟩
theorem v_parameterByte (hT : (gl_t G)[0]? = some (cI, .int)) (H : mI B T F bd P gs Q hd ch I R) (b : Bool) (i : Int32) : ct_E G m_Model_parameterByte [.ref M, .int (bI b), .int i] (mo_ov cI cZ h0 M I R) (cr (fun v h' => v = .int (oB (if b = true then ch else hd) i) ∧ mH5 cI cZ h0 M I (mI B T F bd P gs Q hd ch) h')) := by
  obtain ⟨c1, c2, c3, c4⟩ := H.2.2.2.2.2.2
  refine ct_to (c_Model_parameterByte hT c1 c2 c3 c4 b i) ?_
  rintro o h' ⟨v, rfl, rfl, rfl⟩
  exact ⟨_, rfl, rfl, _, _, rfl, mI_0 H, rfl, rfl⟩
theorem v_parameter (hT : (gl_t G)[0]? = some (cI, .int)) (hZ : (gl_t G)[1]? = some (cZ, .boolean)) (H : mI B T F bd P gs Q hd ch I R) : ct_E G m_Model_parameter [.ref M] (mo_ov cI cZ h0 M I R) (cr (fun v h' => v = .int (oL ((hdOf T Q).map (fun x => x.1))) ∧ mH5 cI cZ h0 M I (mI B [] F bd P gs Q ((hdOf T Q).map (fun x => x.1)) ((hdOf T Q).map (fun x => x.2))) h')) := by
  obtain ⟨⟨b1, b2⟩, ⟨t1, t2, t3⟩, ⟨f1, f2, f3, f4⟩, h4, ⟨⟨ml, p1⟩, p2, p3⟩, h6, ⟨c1, c2, c3, c4⟩⟩ := H
  refine ct_to (c_Model_parameter hT hZ h6 t1 t2 t3) ?_
  rintro o h' ⟨v, rfl, q0, R', rfl, q1, q2⟩
  refine ⟨_, rfl, q0, _, _, rfl, ⟨⟨b1, by rw [q2 1 (by decide)]; exact b2⟩, ⟨by decide, rfl, hol_nil _ _⟩, ⟨flds_R f1 (fun j j1 j2 => q2 j (by simp; omega)), f2, f3, f4⟩, h4, ⟨⟨ml, pOk_R p1 (fun j j1 j2 => q2 j (by simp; omega))⟩, by rw [q2 18 (by decide)]; exact p2, p3⟩, pmOk_sm h6 rfl q2, ⟨rfl, rfl, fun l hx => ?_, fun l hx => ?_⟩⟩, rfl, rfl⟩
  · cases hH : hdOf T Q with
    | none => rw [hH] at hx; cases hx
    | some x =>
      rw [hH] at hx
      cases hx
      exact ⟨(q1 x.1 x.2 hH).1, (q1 x.1 x.2 hH).2.2.1⟩
  · cases hH : hdOf T Q with
    | none => rw [hH] at hx; cases hx
    | some x =>
      rw [hH] at hx
      cases hx
      exact ⟨(q1 x.1 x.2 hH).2.1, (q1 x.1 x.2 hH).2.2.2⟩
end REF5
/-! class and reference side by side, with all that is kept -/
def LI5 (cI cZ cJ : ClassId) (X : Nat) (h : hp_T) (σ : rwT) : Prop := ∃ (B T : List Int32) (F : Flds) (bd : Nat) (P : Pts) (gs : List Int32) (Q : List Prm) (hd ch : Option (List Int32)) (I : Nat → Int32) (R : Nat → Nat → Int32), (clS cI X h σ B T F bd ∧ obS X h) ∧ oC cJ X h ∧ mI B T F bd P gs Q hd ch I R ∧ mo_ov cI cZ h (X + 70) I R = h ∧ byS B T F ∧ eS σ P Q ∧ eAd X h σ P gs I
theorem LI5_LI {cI cZ cJ : ClassId} {X : Nat} {h : hp_T} {σ : rwT} (L0 : LI5 cI cZ cJ X h σ) : LI cI cZ cJ X h σ := by
  obtain ⟨B, T, F, bd, P, gs, Q, hd, ch, I, R, C, o, H, e, hy, he, -⟩ := L0
  exact ⟨B, T, F, bd, P, gs, Q, hd, ch, I, R, C, o, H, e, hy, he⟩
section BOTH5
variable {cI cZ cJ : ClassId} {X : Nat} {B T : List Int32} {F : Flds} {bd : Nat} {P : Pts} {gs : List Int32} {Q : List Prm} {hd ch : Option (List Int32)} {I : Nat → Int32}
theorem ref_LI5 {h h' : hp_T} {σ : rwT} (C : clS cI X h σ B T F bd) (O : obS X h) (o : oC cJ X h) (hy : byS B T F) (he : eS σ P Q) (ht : eAd X h σ P gs I) (H : mH5 cI cZ h (X + 70) I (mI B T F bd P gs Q hd ch) h') : LI5 cI cZ cJ X h' σ ∧ h'.1 = h.1 ∧ h'.2.1 = h.2.1 := by
  obtain ⟨I', R', rfl, H1, h24, h25⟩ := H
  obtain ⟨L1, e2⟩ := ref_LI (cZ := cZ) C O o hy he ⟨_, _, rfl, H1⟩
  have hX := C.1.1.2.2
  have hq : ∀ q, (q ≤ X + 69 ∨ X + 99 ≤ q) → q < h.1 → (mo_ov cI cZ h (X + 70) I' R').2.2 q = h.2.2 q := fun q q1 _ => ov_ne (by omega)
  refine ⟨⟨B, T, F, bd, P, gs, Q, hd, ch, I', R', ⟨clS_eq C (Nat.le_refl _) hq, obS_eq O hX hq⟩, ?_, H1, ov_ov, hy, he, eAd_fr ht (ov_ne (by omega)) (fun _ _ => rfl) (fun _ _ => rfl) ht.2.2 h24 h25⟩, e2⟩
  obtain ⟨f, hf⟩ := o
  exact ⟨f, by rw [ov_ne (by omega)]; exact hf⟩
end BOTH5
theorem tyPt_lt {P : Pts} {o : Option (List Int32 × List Int32 × Nat)} {w : Nat} (h : w < 4) : tyPt P o w = P w := by
  unfold tyPt
  rw [if_neg (by omega), if_neg (by omega)]
theorem tyPt_56 {P : Pts} {o : Option (List Int32 × List Int32 × Nat)} : (tyPt P o 5).length = (tyPt P o 6).length ∧ (tyPt P o 5).length ≤ 1 := by
  cases o <;> simp [tyPt]
section BEGIN5
variable {cI : ClassId} {X str : Nat} {h : hp_T}
theorem new_eAd (F : fr cI str X h) : eAd X h (sg0 X) (fun _ => []) [] mo_I0 := by
  refine ⟨⟨([], [], 0, -1), -1, ⟨?_, ⟨rfl, rfl⟩, ⟨rfl, rfl⟩, rfl⟩, rfl, rfl, rfl, rfl, rfl, rfl, rfl⟩, ⟨rfl, rfl⟩, rfl, Nat.zero_le _⟩
  exact fr_adr F
end BEGIN5
