/-! bytes -/
/-- a byte -/
def byt (x : Int32) : Prop := ∃ n : Nat, n < 256 ∧ x = nI n
theorem by8_byt (x k : Int32) : byt (by8 x k) := by
  unfold by8
  obtain ⟨j, hj, e⟩ := pk_andE ((x.toUInt32 >>> ((24 - 8 * k).toUInt32 &&& Int32.toUInt32 31)).toInt32) (m := 255) 8 (by decide)
  exact ⟨j, by omega, e⟩
def byS (B T : List Int32) (F : Flds) : Prop := (∀ x ∈ B, byt x) ∧ (∀ x ∈ T, byt x) ∧ ∀ x ∈ fK F, byt x
theorem fed_byt (a b c d e : Int32) : ∀ x ∈ fedL a b c d e, byt x := by
  intro x hx
  simp only [fedL, List.mem_map] at hx
  obtain ⟨j, -, rfl⟩ := hx
  exact by8_byt _ _
theorem zero_byt : ∀ x ∈ List.replicate 20 (0 : Int32), byt x := by
  intro x hx
  rw [(List.mem_replicate.mp hx).2]
  exact ⟨0, by decide, rfl⟩
theorem tk_sub {l : List Int32} {F : Flds} {g : Bool} {b : Nat} (hg : g = true → F ≠ []) : ∀ x ∈ fK (tkL l F g b).1.1, x ∈ fK F ∨ x ∈ l := by
  unfold tkL
  by_cases h1 : isBlH l = true
  · rw [if_pos h1]
    cases g with
    | true =>
      rw [if_pos rfl]
      obtain ⟨F', q, rfl⟩ : ∃ F' q, F = F' ++ [q] := ⟨F.dropLast, F.getLast (hg rfl), (List.dropLast_concat_getLast (hg rfl)).symm⟩
      rw [addLast_snoc]
      intro x hx
      rw [fK_snoc] at hx ⊢
      simp only [List.mem_append] at hx ⊢
      rcases hx with hx | hx | hx | hx
      · exact Or.inl (Or.inl hx)
      · exact Or.inl (Or.inr (Or.inl hx))
      · exact Or.inl (Or.inr (Or.inr hx))
      · exact Or.inr hx
    | false =>
      rw [if_neg (by decide)]
      exact fun x hx => Or.inl hx
  · rw [if_neg h1]
    cases hc : clp l with
    | none => exact fun x hx => Or.inl hx
    | some c =>
      by_cases h4 : F.length = 40
      · simp only [if_pos h4]
        exact fun x hx => Or.inl hx
      · simp only [if_neg h4]
        intro x hx
        rw [fK_snoc] at hx
        simp only [lfd, List.mem_append] at hx
        rcases hx with hx | hx | hx
        · exact Or.inl hx
        · exact Or.inr (List.mem_of_mem_take hx)
        · exact Or.inr (List.mem_of_mem_drop hx)
theorem rdS_sub : ∀ (n : Nat) (l : List Int32) (F : Flds) (b : Nat) (g : Bool), (g = true → F ≠ []) → ∀ x ∈ fK (rdS n l F b g).1, x ∈ fK F ∨ x ∈ l
  | 0, _, _, _, _, _ => fun _ hx => Or.inl hx
  | n + 1, l, F, b, g, hg => by
    by_cases hn : l = []
    · rw [rdS, if_pos hn]; exact fun _ hx => Or.inl hx
    · rw [rdS_tk hn]
      have hs := tk_sub (l := l.take (eL l)) (b := b) hg
      have hb := tk_bd (l := l.take (eL l)) (b := b) hg
      split
      · intro x hx
        rcases rdS_sub n _ _ _ _ hb.2.2 x hx with q | q
        · rcases hs x q with q | q
          · exact Or.inl q
          · exact Or.inr (List.mem_of_mem_take q)
        · exact Or.inr (List.mem_of_mem_drop q)
      · intro x hx
        rcases hs x hx with q | q
        · exact Or.inl q
        · exact Or.inr (List.mem_of_mem_take q)
theorem read_byt {T : List Int32} (hT : ∀ x ∈ T, byt x) : ∀ x ∈ fK (rdS T.length T [] 0 false).1, byt x := fun x hx => by
  rcases rdS_sub T.length T [] 0 false (fun z => by cases z) x hx with q | q
  · simp [fK] at q
  · exact hT x q
theorem val_byt {F : Flds} (hF : ∀ x ∈ fK F, byt x) {j : Nat} {q : List Int32 × List Int32} (hq : F[j]? = some q) : ∀ x ∈ q.2, byt x := fun x hx => hF x (by
  simp only [fK, List.mem_flatMap]
  exact ⟨q, List.mem_of_getElem? hq, List.mem_append_right _ hx⟩)
