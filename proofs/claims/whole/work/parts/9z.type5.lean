/-! the class: a type's parameters, strong -/
def prmN (N : Wds) : Option Prm := match N[0]?, N[1]?, N[2]? with
  | some wa, some ws, some wv => if wa.1 = 4 ∧ wIs ws 61 = true ∧ (wv.1 = 4 ∨ wv.1 = 1) ∧ ¬ n2N wa.2.2 = 0 then some (wa.2.2.take (n2N wa.2.2), piN wa.2.2, cdN wa.2.2, wv.2.2) else none
  | _, _, _ => none
theorem prmAt_N (W : Wds) (k : Nat) : prmAt W k = prmN (nc (W.drop k)) := by
  obtain ⟨a1, a2⟩ := nx_hd W k
  obtain ⟨b1, b2⟩ := nx_hd W (nx W k W.length + 1)
  obtain ⟨c1, -⟩ := nx_hd W (nx W (nx W k W.length + 1) W.length + 1)
  rw [a2] at b1 b2
  rw [b2] at c1
  unfold prmAt prmN
  rw [a1, b1, c1, List.drop_drop, List.getElem?_drop, List.getElem?_drop]
  rfl
/-- the parameters of words but comments: behind each ; -/
def cQ : Wds → List Prm
  | [] => []
  | w :: t => (bif wIs w 59 then (prmN t).toList else []) ++ cQ t
theorem nc_cons (w : Int32 × Int32 × List Int32) (t : Wds) : nc (w :: t) = if w.1 = 0 then nc t else w :: nc t := by
  by_cases h : w.1 = 0
  · rw [if_pos h]; simp [nc, h]
  · rw [if_neg h]; simp [nc, h]
theorem cQ_S : ∀ l : Wds, cQ (nc l) = match l.drop (cS l) with
    | [] => []
    | _ :: t => (prmN (nc t)).toList ++ cQ (nc t)
  | [] => by simp [nc, cQ, cS]
  | w :: t => by
    have ih := cQ_S t
    by_cases h59 : wIs w 59 = true
    · have h3 : w.1 = 3 := by
        simp only [wIs, decide_eq_true_eq] at h59
        exact h59.1
      have e : cS (w :: t) = 0 := by simp [cS, h59]
      rw [e, nc_cons, if_neg (by rw [h3]; decide)]
      simp [cQ, h59]
    · have e : cS (w :: t) = cS t + 1 := by simp [cS, h59]
      rw [e, List.drop_succ_cons, ← ih, nc_cons]
      by_cases h0 : w.1 = 0
      · rw [if_pos h0]
      · rw [if_neg h0]
        simp [cQ, h59]
theorem tyQ_eq (W : Wds) : ∀ (n k : Nat) (Q : List Prm), W.length < k + n → tyQ W n k Q = Q ++ cQ (nc (W.drop k))
  | 0, k, Q, h => by
    rw [List.drop_eq_nil_of_le (by omega)]
    simp [tyQ, nc, cQ]
  | n + 1, k, Q, h => by
    have hS := cQ_S (W.drop k)
    have ed : (W.drop k).drop (cS (W.drop k)) = W.drop (scn W k) := by rw [List.drop_drop]; rfl
    rw [ed] at hS
    rw [tyQ]
    by_cases hl : scn W k < W.length
    · rw [if_pos hl]
      have hk : k ≤ scn W k := Nat.le_add_right _ _
      have e1 : W.drop (scn W k) = W[scn W k] :: W.drop (scn W k + 1) := (List.getElem_cons_drop hl).symm
      rw [e1] at hS
      simp only at hS
      rw [hS, tyQ_eq W n (scn W k + 1) _ (by omega), prmAt_N]
      cases prmN (nc (W.drop (scn W k + 1))) with
      | none => simp
      | some q => simp
    · rw [if_neg hl]
      have e0 : W.drop (scn W k) = [] := List.drop_eq_nil_of_le (by omega)
      rw [e0] at hS
      simp only at hS
      rw [hS, List.append_nil]
theorem tyQs_N (W : Wds) : tyQs W = bif tyK (nc W) then cQ ((nc W).drop 3) else [] := by
  have hK := tyA_K W
  unfold tyQs
  cases ha : tyA W with
  | none =>
    rw [ha] at hK
    rw [← hK]
    rfl
  | some x =>
    rw [ha] at hK
    rw [← hK]
    show tyQ W (W.length + 1) (x.2.2 + 1) [] = cQ ((nc W).drop 3)
    rw [tyQ_eq W (W.length + 1) (x.2.2 + 1) [] (by omega), List.nil_append]
    obtain ⟨a1, a2⟩ := nx_hd W 0
    obtain ⟨b1, b2⟩ := nx_hd W (nx W 0 W.length + 1)
    obtain ⟨c1, c2⟩ := nx_hd W (nx W (nx W 0 W.length + 1) W.length + 1)
    rw [List.drop_zero] at a2
    rw [a2] at b2
    rw [b2] at c2
    have ex : x.2.2 = nx W (nx W (nx W 0 W.length + 1) W.length + 1) W.length := by
      unfold tyA at ha
      split at ha
      · split at ha
        · cases ha; rfl
        · cases ha
      · cases ha
    rw [ex, c2, List.drop_drop, List.drop_drop]
