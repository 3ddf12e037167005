/-! words but comments; whether it is a type -/
/-- words but comments -/
def nc (W : Wds) : Wds := W.filter (fun w => decide (¬ w.1 = 0))
theorem cwd_nc : ∀ W : Wds, cwd false W = (nc W).map (fun w => (cK w, w.2.2))
  | [] => rfl
  | w :: W => by
    have := cwd_nc W
    by_cases h : w.1 = 0
    · simp [cwd, nc, h] at this ⊢; exact this
    · simp [cwd, nc, h] at this ⊢; exact this
theorem nc_hd : ∀ l : Wds, l[cc l]? = (nc l)[0]? ∧ nc (l.drop (cc l + 1)) = (nc l).drop 1
  | [] => ⟨rfl, rfl⟩
  | w :: t => by
    obtain ⟨h1, h2⟩ := nc_hd t
    by_cases h : w.1 = 0
    · have e : cc (w :: t) = cc t + 1 := by simp [cc, h]
      have e2 : nc (w :: t) = nc t := by simp [nc, h]
      rw [e, e2]
      exact ⟨by rw [List.getElem?_cons_succ]; exact h1, by rw [List.drop_succ_cons]; exact h2⟩
    · have e : cc (w :: t) = 0 := by simp [cc, h]
      have e2 : nc (w :: t) = w :: nc t := by simp [nc, h]
      rw [e, e2]
      exact ⟨rfl, rfl⟩
theorem nx_hd (W : Wds) (a : Nat) : W[nx W a W.length]? = (nc (W.drop a))[0]? ∧ nc (W.drop (nx W a W.length + 1)) = (nc (W.drop a)).drop 1 := by
  obtain ⟨h1, h2⟩ := nc_hd (W.drop a)
  have e : nx W a W.length = a + cc (W.drop a) := by unfold nx; rw [List.take_length]
  rw [e]
  refine ⟨by rw [← h1, List.getElem?_drop], ?_⟩
  rw [← h2, List.drop_drop]
  congr 1
def tyK (N : Wds) : Bool := match N[0]?, N[1]?, N[2]? with
  | some a, some s, some b => decide (a.1 = 4 ∧ wIs s 47 = true ∧ b.1 = 4)
  | _, _, _ => false
theorem tyA_K (W : Wds) : (tyA W).isSome = tyK (nc W) := by
  obtain ⟨a1, a2⟩ := nx_hd W 0
  obtain ⟨b1, b2⟩ := nx_hd W (nx W 0 W.length + 1)
  obtain ⟨c1, -⟩ := nx_hd W (nx W (nx W 0 W.length + 1) W.length + 1)
  rw [List.drop_zero] at a1 a2
  rw [a2] at b1 b2
  rw [b2] at c1
  unfold tyA tyK
  rw [a1, b1, c1, List.drop_drop, List.getElem?_drop, List.getElem?_drop]
  cases (nc W)[0]? with
  | none => rfl
  | some a =>
    cases (nc W)[1 + 0]? with
    | none => rfl
    | some s =>
      cases (nc W)[1 + 1 + 0]? with
      | none => rfl
      | some b =>
        simp only
        by_cases h : a.1 = 4 ∧ wIs s 47 = true ∧ b.1 = 4
        · rw [if_pos h]; simp [h]
        · rw [if_neg h]; simp [h]
/-- the words of a value: kinds, and signs -/
def wfW (w : Int32 × Int32 × List Int32) : Prop := (w.1 = 0 ∨ w.1 = 1 ∨ w.1 = 2 ∨ w.1 = 3 ∨ w.1 = 4) ∧ (w.1 = 3 → ∃ ty, isSg ty w.2.1 = true)
theorem wcut_wf (ty : Bool) : ∀ (n : Nat) (l : List Int32), ∀ w ∈ wcut ty n l, wfW w
  | 0, _ => fun w hw => by simp [wcut] at hw
  | n + 1, [] => fun w hw => by simp [wcut] at hw
  | n + 1, c :: t => by
    intro w hw
    rw [wcut] at hw
    split at hw
    · exact wcut_wf ty n _ w hw
    · split at hw
      · rcases List.mem_cons.mp hw with rfl | hw
        · exact ⟨by simp, fun z => by simp at z⟩
        · exact wcut_wf ty n _ w hw
      · split at hw
        · rcases List.mem_cons.mp hw with rfl | hw
          · exact ⟨by simp, fun z => by simp at z⟩
          · exact wcut_wf ty n _ w hw
        · split at hw
          · rcases List.mem_cons.mp hw with rfl | hw
            · exact ⟨by simp, fun z => by simp at z⟩
            · exact wcut_wf ty n _ w hw
          · split at hw
            · rename_i hs
              rcases List.mem_cons.mp hw with rfl | hw
              · exact ⟨by simp, fun _ => ⟨ty, hs⟩⟩
              · exact wcut_wf ty n _ w hw
            · rcases List.mem_cons.mp hw with rfl | hw
              · exact ⟨by simp, fun z => by simp at z⟩
              · exact wcut_wf ty n _ w hw
theorem sg_ne {ty : Bool} {c : Int32} (h : isSg ty c = true) : ¬ c = 1 ∧ ¬ c = 2 ∧ ¬ c = 3 ∧ ¬ c = 4 := by
  refine ⟨?_, ?_, ?_, ?_⟩ <;> (rintro rfl; revert h; cases ty <;> decide)
theorem cK_1 {w : Int32 × Int32 × List Int32} (h : wfW w) : cK w = 1 ↔ w.1 = 4 := by
  obtain ⟨h1, h2⟩ := h
  unfold cK
  rcases h1 with e | e | e | e | e <;> rw [e]
  · simp
  · simp
  · simp
  · obtain ⟨ty, hs⟩ := h2 e
    have := (sg_ne hs).1
    simp [this]
  · simp
theorem cK_2 {w : Int32 × Int32 × List Int32} (h : wfW w) : cK w = 2 ↔ w.1 = 1 := by
  obtain ⟨h1, h2⟩ := h
  unfold cK
  rcases h1 with e | e | e | e | e <;> rw [e]
  · simp
  · simp
  · simp
  · obtain ⟨ty, hs⟩ := h2 e
    have := (sg_ne hs).2.1
    simp [this]
  · simp
theorem cK_s {w : Int32 × Int32 × List Int32} (h : wfW w) {c : Int32} (hc : ¬ c = 1 ∧ ¬ c = 2 ∧ ¬ c = 3 ∧ ¬ c = 4) : cK w = c ↔ wIs w c = true := by
  obtain ⟨h1, h2⟩ := h
  obtain ⟨c1, c2, c3, c4⟩ := hc
  unfold cK wIs
  rcases h1 with e | e | e | e | e <;> rw [e]
  · simp; exact fun z => c4 z.symm
  · simp; exact fun z => c2 z.symm
  · simp; exact fun z => c3 z.symm
  · simp
  · simp; exact fun z => c1 z.symm
theorem tyK_cls {N : Wds} (hN : ∀ w ∈ N, wfW w) : tyK N = decide (rg (N.map cK) 0 = 1 ∧ rg (N.map cK) 1 = 47 ∧ rg (N.map cK) 2 = 1) := by
  have r0 : ∀ l : List Int32, rg l 0 = l.getD 0 (-1) := fun l => rg_nat (xs := l) (j := 0) (by decide)
  have r1 : ∀ l : List Int32, rg l 1 = l.getD 1 (-1) := fun l => rg_nat (xs := l) (j := 1) (by decide)
  have r2 : ∀ l : List Int32, rg l 2 = l.getD 2 (-1) := fun l => rg_nat (xs := l) (j := 2) (by decide)
  rw [r0, r1, r2]
  unfold tyK
  match N, hN with
  | [], _ => rfl
  | [a], _ => simp
  | [a, s], _ => simp
  | a :: s :: b :: t, hN =>
    have ha := cK_1 (hN a (by simp))
    have hs := cK_s (c := 47) (hN s (by simp)) (by decide)
    have hb := cK_1 (hN b (by simp))
    simp [ha, hs, hb]
