/-! the reference: type: its words counted, its loops -/
theorem wcut_len (ty : Bool) : ∀ (n : Nat) (v : List Int32), v.length ≤ n → (wcut ty n v).length + (wB (wcut ty n v)).length ≤ 2 * v.length ∧ (wcut ty n v).length ≤ v.length ∧ (wB (wcut ty n v)).length ≤ v.length
  | 0, v, _ => by simp [wcut, wB]
  | n + 1, [], _ => by simp [wcut, wB]
  | n + 1, c :: t, h => by
    simp only [List.length_cons] at h
    have wBc : ∀ (w : Int32 × Int32 × List Int32) (V : Wds), (wB (w :: V)).length = w.2.2.length + (wB V).length := fun w V => by simp [wB]
    have step : ∀ (w : Int32 × Int32 × List Int32) (u : List Int32), w.2.2.length + u.length ≤ t.length + 1 → u.length ≤ t.length → (w :: wcut ty n u).length + (wB (w :: wcut ty n u)).length ≤ 2 * (c :: t).length ∧ (w :: wcut ty n u).length ≤ (c :: t).length ∧ (wB (w :: wcut ty n u)).length ≤ (c :: t).length := by
      intro w u h1 h2
      have := wcut_len ty n u (by omega)
      rw [wBc]
      simp only [List.length_cons]
      omega
    rw [wcut]
    split
    · have := wcut_len ty n t (by omega)
      simp only [List.length_cons]
      omega
    · split
      · have := encl_len true 41 t.length 1 t (Nat.le_refl _)
        exact step _ _ (by show (encl true 41 1 t).1.length + _ ≤ _; omega) (by omega)
      · split
        · have := encl_len false 34 t.length 1 t (Nat.le_refl _)
          exact step _ _ (by show (encl false 34 1 t).1.length + _ ≤ _; omega) (by omega)
        · split
          · have := encl_len false 93 t.length 1 t (Nat.le_refl _)
            exact step _ _ (by show (encl false 93 1 t).1.length + _ ≤ _; omega) (by omega)
          · split
            · exact step _ _ (by show 1 + t.length ≤ _; omega) (Nat.le_refl _)
            · next h1 h2 h3 h4 h5 =>
              have hat : isAt ty c = true := decide_eq_true ⟨by simpa using h1, h2, h3, h4, by simpa using h5⟩
              have hc := cnt_yes (p := isAt ty) (t := t) hat
              have hle := cnt_le (isAt ty) (c :: t)
              simp only [List.length_cons] at hle
              refine step _ _ ?_ ?_
              · show ((c :: t).take (cnt (isAt ty) (c :: t))).length + _ ≤ _
                rw [List.length_take, List.length_drop, List.length_cons]
                omega
              · rw [List.length_drop, List.length_cons]
                omega
theorem wOk_R {W : Wds} {I : Nat → Int32} {R R' : Nat → Nat → Int32} (h : wOk W I R) (hs : ∀ j, 8 ≤ j → j ≤ 12 → R' j = R j) : wOk W I R' := by
  refine ⟨h.1, h.2.1, by rw [hs 12 (by decide) (by decide)]; exact h.2.2.1, fun i w hi => ?_⟩
  rw [hs 8 (by decide) (by decide), hs 9 (by decide) (by decide), hs 10 (by decide) (by decide), hs 11 (by decide) (by decide)]
  exact h.2.2.2 i w hi
theorem pmOk_R {Q : List Prm} {I I' : Nat → Int32} {R R' : Nat → Nat → Int32} (h : pmOk Q I R) (hI : I' 27 = I 27) (hs : ∀ j, 19 ≤ j → j ≤ 25 → R' j = R j) : pmOk Q I' R' := by
  refine ⟨by rw [hI]; exact h.1, h.2.1, h.2.2.1, fun i q hq => ?_⟩
  have := h.2.2.2 i q hq
  unfold prAt at this ⊢
  rw [hs 19 (by decide) (by decide), hs 20 (by decide) (by decide), hs 21 (by decide) (by decide), hs 22 (by decide) (by decide), hs 23 (by decide) (by decide), hs 24 (by decide) (by decide), hs 25 (by decide) (by decide)]
  exact this
theorem cc_cm : ∀ (l : Wds) (j : Nat) (w : Int32 × Int32 × List Int32), j < cc l → l[j]? = some w → w.1 = 0
  | [], j, w, h, _ => by simp [cc] at h
  | x :: t, j, w, h, hw => by
    unfold cc at h
    by_cases h0 : x.1 = 0
    · rw [if_pos h0] at h
      cases j with
      | zero =>
        have : x = w := by simpa using hw
        rw [← this]; exact h0
      | succ j => exact cc_cm t j w (by omega) (by simpa using hw)
    · rw [if_neg h0] at h
      omega
/-- between a place and what next answers there are COMMENTS alone -/
theorem nx_cm {W : Wds} {a j : Nat} {w : Int32 × Int32 × List Int32} (h1 : a ≤ j) (h2 : j < nx W a W.length) (hw : W[j]? = some w) : w.1 = 0 := by
  unfold nx at h2
  rw [List.take_length] at h2
  refine cc_cm (W.drop a) (j - a) w (by omega) ?_
  rw [List.getElem?_drop, show a + (j - a) = j by omega]
  exact hw
/-- the first ; from k on -/
def cS : Wds → Nat
  | [] => 0
  | w :: t => if wIs w 59 = true then 0 else cS t + 1
def scn (W : Wds) (k : Nat) : Nat := k + cS (W.drop k)
theorem cS_at : ∀ (l : Wds), cS l ≤ l.length ∧ ∀ w, l[cS l]? = some w → wIs w 59 = true
  | [] => ⟨Nat.le_refl _, fun w h => by simp [cS] at h⟩
  | x :: t => by
    have h := cS_at t
    unfold cS
    by_cases h0 : wIs x 59 = true
    · rw [if_pos h0]
      exact ⟨Nat.zero_le _, fun w hw => by
        have : x = w := by simpa using hw
        rw [← this]; exact h0⟩
    · rw [if_neg h0]
      exact ⟨by simp; exact h.1, fun w hw => h.2 w (by simpa using hw)⟩
theorem scn_at {W : Wds} {k : Nat} {w : Int32 × Int32 × List Int32} (h : W[scn W k]? = some w) : wIs w 59 = true := by
  refine (cS_at (W.drop k)).2 w ?_
  rw [List.getElem?_drop]
  exact h
/-- the parameters of the words from k on -/
def tyQ (W : Wds) : Nat → Nat → List Prm → List Prm
  | 0, _, Q => Q
  | n + 1, k, Q => if scn W k < W.length then tyQ W n (scn W k + 1) (match prmAt W (scn W k + 1) with
      | none => Q
      | some q => Q ++ [q]) else Q
/-- how much the parameters of the words ahead of k may hold -/
def tyI (W : Wds) (Q : List Prm) (k : Nat) : Prop := ∃ m, sumV Q ≤ (wB (W.take m)).length ∧ 4 * Q.length ≤ m ∧ m ≤ W.length ∧ ∀ j w, k ≤ j → j < m → W[j]? = some w → wIs w 59 = false
theorem wB_take_mono {W : Wds} : ∀ {a b : Nat}, a ≤ b → (wB (W.take a)).length ≤ (wB (W.take b)).length := by
  intro a b h
  have e : W.take b = W.take a ++ (W.take b).drop a := by
    conv => lhs; rw [← List.take_append_drop a (W.take b)]
    rw [List.take_take, Nat.min_eq_left h]
  have := congrArg (fun l => (wB l).length) e
  simp only [wB, List.flatMap_append, List.length_append] at this
  simp only [wB]
  omega
theorem wB_take_succ {W : Wds} {v : Nat} {w : Int32 × Int32 × List Int32} (h : W[v]? = some w) : (wB (W.take (v + 1))).length = (wB (W.take v)).length + w.2.2.length := by
  obtain ⟨hv, e⟩ := List.getElem?_eq_some_iff.mp h
  rw [List.take_succ_eq_append_getElem hv, e]
  simp [wB]
theorem tyI_le {W : Wds} {Q : List Prm} {k : Nat} (h : tyI W Q k) : sumV Q ≤ (wB W).length ∧ 4 * Q.length ≤ W.length := by
  obtain ⟨m, h1, h2, h3, -⟩ := h
  have := wB_take_mono (W := W) h3
  rw [List.take_length] at this
  omega
theorem tyI_step {W : Wds} {Q : List Prm} {k : Nat} (h : tyI W Q k) (hp : scn W k < W.length) : (∀ q, prmAt W (scn W k + 1) = some q → sumV Q + q.2.2.2.length ≤ (wB W).length) ∧ tyI W (match prmAt W (scn W k + 1) with
    | none => Q
    | some q => Q ++ [q]) (scn W k + 1) := by
  obtain ⟨m, h1, h2, h3, h4⟩ := h
  have hk : k ≤ scn W k := Nat.le_add_right _ _
  have hpw : W[scn W k]? = some W[scn W k] := List.getElem?_eq_getElem hp
  have hm : m ≤ scn W k := by
    rcases Nat.lt_or_ge (scn W k) m with q | q
    · have := h4 _ _ hk q hpw
      rw [scn_at hpw] at this
      cases this
    · exact q
  generalize scn W k = p at hp hpw hm hk
  have main : ∀ q, prmAt W (p + 1) = some q → ∃ v, p + 3 ≤ v ∧ v < W.length ∧ (∃ wv, W[v]? = some wv ∧ wv.2.2 = q.2.2.2) ∧ ∀ j w, p + 1 ≤ j → j ≤ v → W[j]? = some w → wIs w 59 = false := by
    intro q hq
    unfold prmAt at hq
    obtain ⟨a, ea⟩ : ∃ a, nx W (p + 1) W.length = a := ⟨_, rfl⟩
    obtain ⟨s, es⟩ : ∃ s, nx W (a + 1) W.length = s := ⟨_, rfl⟩
    obtain ⟨v, ev⟩ : ∃ v, nx W (s + 1) W.length = v := ⟨_, rfl⟩
    rw [ea, es, ev] at hq
    have ga : p + 1 ≤ a := by rw [← ea]; exact nx_ge W _ _
    have gs : a + 1 ≤ s := by rw [← es]; exact nx_ge W _ _
    have gv : s + 1 ≤ v := by rw [← ev]; exact nx_ge W _ _
    cases qa : W[a]? with
    | none => rw [qa] at hq; cases hq
    | some wa =>
      cases qs : W[s]? with
      | none => rw [qa, qs] at hq; cases hq
      | some wsn =>
        cases qv : W[v]? with
        | none => rw [qa, qs, qv] at hq; cases hq
        | some wv =>
          rw [qa, qs, qv] at hq
          have hq' : (if wa.1 = 4 ∧ wIs wsn 61 = true ∧ (wv.1 = 4 ∨ wv.1 = 1) ∧ ¬ n2N wa.2.2 = 0 then some (wa.2.2.take (n2N wa.2.2), piN wa.2.2, cdN wa.2.2, wv.2.2) else none) = some q := hq
          by_cases hc : wa.1 = 4 ∧ wIs wsn 61 = true ∧ (wv.1 = 4 ∨ wv.1 = 1) ∧ ¬ n2N wa.2.2 = 0
          · rw [if_pos hc] at hq'
            cases hq'
            obtain ⟨c1, c2, c3, -⟩ := hc
            refine ⟨v, by omega, (List.getElem?_eq_some_iff.mp qv).1, ⟨wv, qv, rfl⟩, fun j w j1 j2 hw => decide_eq_false fun z => ?_⟩
            have h3 := z.1
            have hcm : ∀ (x : Nat), x ≤ j → j < nx W x W.length → False := fun x x1 x2 => by
              have := nx_cm x1 x2 hw
              rw [this] at h3
              exact absurd h3 (by decide)
            rcases Nat.lt_trichotomy j a with q | q | q
            · exact hcm (p + 1) (by omega) (by rw [ea]; exact q)
            · subst q
              rw [qa] at hw; cases hw
              rw [c1] at h3
              exact absurd h3 (by decide)
            · rcases Nat.lt_trichotomy j s with q | q | q
              · exact hcm (a + 1) (by omega) (by rw [es]; exact q)
              · subst q
                rw [qs] at hw; cases hw
                have h61 := (of_decide_eq_true c2).2
                rw [z.2] at h61
                exact absurd h61 (by decide)
              · rcases Nat.lt_or_ge j v with q | q
                · exact hcm (s + 1) (by omega) (by rw [ev]; exact q)
                · have : j = v := by omega
                  subst this
                  rw [qv] at hw; cases hw
                  rcases c3 with c | c
                  · rw [c] at h3; exact absurd h3 (by decide)
                  · rw [c] at h3; exact absurd h3 (by decide)
          · rw [if_neg hc] at hq'
            cases hq'
  have m1 := wB_take_mono (W := W) (a := m) (b := p) hm
  refine ⟨fun q hq => ?_, ?_⟩
  · obtain ⟨v, v1, v2, ⟨wv, v3, v4⟩, -⟩ := main q hq
    have e1 := wB_take_succ v3
    have e2 := wB_take_mono (W := W) (a := m) (b := v) (by omega)
    have e3 := wB_take_mono (W := W) (a := v + 1) (b := W.length) (by omega)
    rw [List.take_length] at e3
    rw [v4] at e1
    omega
  · cases hq : prmAt W (p + 1) with
    | none => exact ⟨m, h1, h2, h3, fun j w j1 j2 => by omega⟩
    | some q =>
      obtain ⟨v, v1, v2, ⟨wv, v3, v4⟩, v5⟩ := main q hq
      have e1 := wB_take_succ v3
      have e2 := wB_take_mono (W := W) (a := m) (b := v) (by omega)
      rw [v4] at e1
      refine ⟨v + 1, ?_, ?_, by omega, fun j w j1 j2 => v5 j w j1 (by omega)⟩
      · have e : ∀ (A : List Prm), sumV (A ++ [q]) = sumV A + q.2.2.2.length := fun A => by
          induction A with
          | nil => simp [sumV]
          | cons x A ih => simp only [List.cons_append, sumV]; omega
        show sumV (Q ++ [q]) ≤ _
        rw [e]
        omega
      · show 4 * (Q ++ [q]).length ≤ _
        simp
        omega
