/-! the class: a field's texts by their bounds -/
theorem bnA_at : ∀ (F : Flds) (o f : Nat) (q : List Int32 × List Int32), F[f]? = some q → (bnA o F)[2 * f]? = some (nI (o + (fK (F.take f)).length + q.1.length)) ∧ (bnA o F)[2 * f + 1]? = some (nI (o + (fK (F.take f)).length + q.1.length + q.2.length))
  | [], _, f, q, h => by simp at h
  | x :: F, o, 0, q, h => by
    have e : x = q := by simpa using h
    subst e
    simp [bnA, fK]
  | x :: F, o, f + 1, q, h => by
    have ih := bnA_at F (o + x.1.length + x.2.length) f q (by simpa using h)
    have e : (fK ((x :: F).take (f + 1))).length = x.1.length + x.2.length + (fK (F.take f)).length := by
      show ((x.1 ++ x.2) ++ fK (F.take f)).length = _
      rw [List.length_append, List.length_append]
    rw [e, show o + (x.1.length + x.2.length + (fK (F.take f)).length) = o + x.1.length + x.2.length + (fK (F.take f)).length by omega]
    exact ih
theorem bnF_at {F : Flds} {f : Nat} {q : List Int32 × List Int32} (h : F[f]? = some q) : (bnF F)[2 * f]? = some (nI (fK (F.take f)).length) ∧ (bnF F)[2 * f + 1]? = some (nI ((fK (F.take f)).length + q.1.length)) ∧ (bnF F)[2 * f + 2]? = some (nI ((fK (F.take f)).length + q.1.length + q.2.length)) := by
  obtain ⟨h1, h2⟩ := bnA_at F 0 f q h
  rw [Nat.zero_add] at h1 h2
  refine ⟨?_, h1, h2⟩
  cases f with
  | zero => rfl
  | succ f =>
    have hf : f < F.length := by have := (List.getElem?_eq_some_iff.mp h).1; omega
    have q0 : F[f]? = some F[f] := List.getElem?_eq_getElem hf
    obtain ⟨-, h4⟩ := bnA_at F 0 f _ q0
    have e : (fK (F.take (f + 1))).length = (fK (F.take f)).length + F[f].1.length + F[f].2.length := by
      rw [List.take_succ_eq_append_getElem hf, fK_snoc]
      simp only [List.length_append]
      omega
    rw [e]
    rw [Nat.zero_add] at h4
    exact h4
theorem rg_at {xs : List Int32} {j : Nat} {x : Int32} (h : xs[j]? = some x) (hj : j < 2 ^ 31) : rg xs (nI j) = x := by
  rw [rg_nat hj, List.getD_eq_getElem?_getD, h]
  rfl
/-- text 2 f + w of a head with the fields F -/
theorem szO_F {F : Flds} {f : Nat} {q : List Int32 × List Int32} (hF : F.length ≤ 40) (h : F[f]? = some q) : szO (bnF F) (nI (2 * f)) = nI q.1.length ∧ szO (bnF F) (nI (2 * f + 1)) = nI q.2.length := by
  have hf := (List.getElem?_eq_some_iff.mp h).1
  obtain ⟨h1, h2, h3⟩ := bnF_at h
  have hl := bnF_len F
  have g0 : ∀ k, k < 2 * F.length → szO (bnF F) (nI k) = rg (bnF F) (nI (k + 1)) - rg (bnF F) (nI k) := fun k hk => by
    unfold szO
    rw [if_neg (nI_pos (by omega)), hl, nI_pred, if_neg (fun z => by have := (nI_leI (by omega) (by omega)).mp z; omega), nI_1]
  constructor
  · rw [g0 _ (by omega), rg_at h2 (by omega), rg_at h1 (by omega), pk_sub (by omega)]
    congr 1
    omega
  · rw [g0 _ (by omega), rg_at h3 (by omega), rg_at h2 (by omega), pk_sub (by omega)]
    congr 1
    omega
/-- the bytes of F from a field on -/
theorem fK_at {F : Flds} {f : Nat} {q : List Int32 × List Int32} (h : F[f]? = some q) : (∀ i, i < q.1.length → (fK F)[(fK (F.take f)).length + i]? = q.1[i]?) ∧ ∀ i, i < q.2.length → (fK F)[(fK (F.take f)).length + q.1.length + i]? = q.2[i]? := by
  have hf := (List.getElem?_eq_some_iff.mp h)
  have e : fK F = fK (F.take f) ++ (q.1 ++ (q.2 ++ fK (F.drop (f + 1)))) := by
    have e1 : F = F.take f ++ (q :: F.drop (f + 1)) := by
      rw [← hf.2, List.getElem_cons_drop, List.take_append_drop]
    have e2 := congrArg fK e1
    rw [e2]
    simp [fK]
  refine ⟨fun i hi => ?_, fun i hi => ?_⟩
  · rw [e, List.getElem?_append_right (by omega), Nat.add_sub_cancel_left, List.getElem?_append_left hi]
  · rw [e, List.getElem?_append_right (by omega), show (fK (F.take f)).length + q.1.length + i - (fK (F.take f)).length = q.1.length + i by omega, List.getElem?_append_right (by omega), Nat.add_sub_cancel_left, List.getElem?_append_left hi]
theorem btO_F {F : Flds} {f : Nat} {q : List Int32 × List Int32} (hF : F.length ≤ 40) (hK : (fK F).length ≤ 1501) (h : F[f]? = some q) (i : Int32) : btO (fK F) (bnF F) (nI (2 * f)) i = rg q.1 i ∧ btO (fK F) (bnF F) (nI (2 * f + 1)) i = rg q.2 i := by
  have hf := (List.getElem?_eq_some_iff.mp h).1
  obtain ⟨h1, h2, h3⟩ := bnF_at h
  obtain ⟨s1, s2⟩ := szO_F hF h
  obtain ⟨k1, k2⟩ := fK_at h
  have key : ∀ (k o : Nat) (t : List Int32), rg (bnF F) (nI k) = nI o → szO (bnF F) (nI k) = nI t.length → o + t.length ≤ (fK F).length → (∀ j, j < t.length → (fK F)[o + j]? = t[j]?) → btO (fK F) (bnF F) (nI k) i = rg t i := by
    intro k o t a1 a2 a4 a3
    unfold btO
    rw [a1, a2]
    by_cases hi : i < 0
    · rw [if_pos hi, rg_neg hi]
    · rw [if_neg hi]
      obtain ⟨j, hj, rfl⟩ := nI_of hi
      by_cases hle : nI t.length ≤ nI j
      · rw [if_pos hle, rg_big hi hle (by omega)]
      · rw [if_neg hle]
        have hlt : j < t.length := by
          rcases Nat.lt_or_ge j t.length with q | q
          · exact q
          · exact absurd (nI_le q (by omega)) hle
        rw [nI_add, rg_nat (by omega), rg_nat (by omega), List.getD_eq_getElem?_getD, List.getD_eq_getElem?_getD, a3 j hlt]
  have e : fK F = fK (F.take f) ++ (q.1 ++ (q.2 ++ fK (F.drop (f + 1)))) := by
    have e1 : F = F.take f ++ (q :: F.drop (f + 1)) := by
      rw [← (List.getElem?_eq_some_iff.mp h).2, List.getElem_cons_drop, List.take_append_drop]
    have e2 := congrArg fK e1
    rw [e2]
    simp [fK]
  have el := congrArg List.length e
  simp only [List.length_append] at el
  exact ⟨key (2 * f) _ q.1 (rg_at h1 (by omega)) s1 (by omega) k1, key (2 * f + 1) _ q.2 (rg_at h2 (by omega)) s2 (by omega) k2⟩
